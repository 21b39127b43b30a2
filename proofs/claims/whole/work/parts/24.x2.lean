set_option maxRecDepth 100000 in
set_option maxHeartbeats 4000000 in
theorem c_X5_worldsLeft (l : Launch) (E : Ev) (a : Nat → Nat) (w rds sd ad : Int32) (pg : Pc) (sn : Nat → Int32) (s0 s1 s2 : Sc) (h : Hc) (t : Tc) (ik iw ir : Int32) (ih : Hc) (it : Tc) (z : Nat → Nat) (y : Sy) (hs : SyA s0 z y) (o : Sy) (ho : SyA s1 z o) : Ctr l yX5_worldsLeft cX5_worldsLeft 1 (some .long) 1 20 E (wX E a) [.ref (a 0)] (((w, rds, sd, ad), pg, sn, s0, s1, s2, h, t, (ik, iw, ir), ih, it)) (fun v8 s8 => v8 = some (.long (wl z y o)) ∧ s8 = ((w, rds, sd, ad), pg, sn, s0, s1, s2, h, t, (ik, iw, ir), ih, it)) := by
  refine Ctr.of' (by decide +kernel) (Nat.le_of_ble_eq_true rfl) (fun X P0 hP0 O => ?_)
  refine g_sub [0] (lv' := [(0, .ref (a 0))]) rfl ?_
  refine g_aload_n 0 O dX5_worldsLeft_0 rfl 0 rfl ?_
  refine g_get 1 O (v := .ref (a 11)) inX5 0 rfl rfl 3 (by decide) kf_X5_27 rfl dX5_worldsLeft_1 ?_
  refine g_callV 4 O (na := 0) (av := []) (c_X3_isNone l E (sh a 11) (r_s1 E a (w, rds, sd, ad) pg sn s0 s2 h t (ik, iw, ir) ih it) s1.1.1 s1.1.2.1 s1.1.2.2.1 s1.1.2.2.2.1 s1.1.2.2.2.2 s1.2.1 s1.2.2.1 s1.2.2.2.1 s1.2.2.2.2.1 s1.2.2.2.2.2.1 s1.2.2.2.2.2.2 ) kl_X5_121 km_X3_isNone kv_X3_isNone ki_X3 kc_X3_isNone (by decide +kernel) rfl (Nat.le_of_ble_eq_true rfl) (Nat.le_of_ble_eq_true rfl) (fun H9 h9 => to_s1 E a (w, rds, sd, ad) pg sn s0 s1 s2 h t (ik, iw, ir) ih it H9 h9) 0 rfl rfl (fun _ => ((w, rds, sd, ad), pg, sn, s0, s1, s2, h, t, (ik, iw, ir), ih, it)) (fun _ _ H9 hp h9 => by obtain ⟨-, rfl⟩ := hp; exact of_s1 E a (w, rds, sd, ad) pg sn s0 s2 h t (ik, iw, ir) ih it _ H9 h9) rfl (Nat.le_of_ble_eq_true rfl) dX5_worldsLeft_4 (fun v9 s9 hv9 => ?_)
  obtain ⟨rfl, rfl⟩ := hv9
  refine g_if_eq 7 O 20 dX5_worldsLeft_7 (by decide) (fun h7 => ?_) (fun h7 => ?_)
  · -- taken
    refine g_aload_n 20 O dX5_worldsLeft_20 rfl 0 rfl ?_
    refine g_get 21 O (v := .ref (a 4)) inX5 0 rfl rfl 2 (by decide) kf_X5_23 rfl dX5_worldsLeft_21 ?_
    refine g_getN 24 O (v := .long s0.1.2.2.2.2) inX3 4 rfl rfl 10 (by decide) (fun _ h => h.2.2.2.2.2.2.1) rfl dX5_worldsLeft_24 ?_
    refine g_sl (som z y) (hs.2.2.2.2.2) ?_
    refine g_aload_n 27 O dX5_worldsLeft_27 rfl 0 rfl ?_
    refine g_get 28 O (v := .ref (a 11)) inX5 0 rfl rfl 3 (by decide) kf_X5_27 rfl dX5_worldsLeft_28 ?_
    refine g_getN 31 O (v := .long s1.1.2.2.2.2) inX3 11 rfl rfl 10 (by decide) (fun _ h => h.2.2.2.2.2.2.1) rfl dX5_worldsLeft_31 ?_
    refine g_sl (som z o) (ho.2.2.2.2.2) ?_
    refine g_land 34 O dX5_worldsLeft_34 ?_
    exact g_lret 35 O dX5_worldsLeft_35 (by rw [hP0, wl, if_neg (fun e => ite_f h7 ((sy0 ho).mpr e))]; exact ⟨rfl, rfl⟩)
  · -- not taken
    refine g_aload_n 10 O dX5_worldsLeft_10 rfl 0 rfl ?_
    refine g_get 11 O (v := .ref (a 4)) inX5 0 rfl rfl 2 (by decide) kf_X5_23 rfl dX5_worldsLeft_11 ?_
    refine g_getN 14 O (v := .long s0.1.2.2.2.2) inX3 4 rfl rfl 10 (by decide) (fun _ h => h.2.2.2.2.2.2.1) rfl dX5_worldsLeft_14 ?_
    refine g_sl (som z y) (hs.2.2.2.2.2) ?_
    refine g_goto 17 O 35 dX5_worldsLeft_17 (by decide) ?_
    exact g_lret 35 O dX5_worldsLeft_35 (by rw [hP0, wl, if_pos ((sy0 ho).mp (ite_t h7))]; exact ⟨rfl, rfl⟩)

set_option maxRecDepth 100000 in
set_option maxHeartbeats 4000000 in
theorem c_X5_factsSoInAll (l : Launch) (E : Ev) {T : Type} (w : T → va_W) (σ : T) (p0 : Int64)  : Ctr l yX5_factsSoInAll cX5_factsSoInAll 4 (some .int) 1 20 E (w) [.long p0] σ (fun v8 s8 => v8 = some (.int (nI (fB (fun f => decide (p0 &&& (Wf f ^^^ (-1)) = 0)) 6))) ∧ s8 = σ) := by
  refine Ctr.of' (by decide +kernel) (Nat.le_of_ble_eq_true rfl) (fun X P0 hP0 O => ?_)
  refine g_sub [0] (lv' := [(0, .long p0)]) rfl ?_
  refine g_iconst 0 O (v := 0) dX5_factsSoInAll_0 (by decide) ?_
  refine g_istore_n 1 O (lv' := [(2, .int 0), (0, .long p0)]) dX5_factsSoInAll_1 rfl (by decide) rfl ?_
  refine g_iconst 2 O (v := 0) dX5_factsSoInAll_2 (by decide) ?_
  refine g_istore_n 3 O (lv' := [(3, .int 0), (2, .int 0), (0, .long p0)]) dX5_factsSoInAll_3 rfl (by decide) rfl ?_
  refine g_sub [0, 1, 2] (lv' := [(3, .int 0), (2, .int 0), (0, .long p0)]) rfl ?_
  have L4 : ∀ (fuel : Nat) (i : Nat) (hi : i ≤ 6), 6 - i < fuel → G l E (w) P0 X 4 σ 4 [(3, .int (nI i)), (2, .int (nI (fB (fun f => decide (p0 &&& (Wf f ^^^ (-1)) = 0)) i))), (0, .long p0)] [] := by
    intro fuel
    induction fuel with
    | zero => intro i hi hfu; exact absurd hfu (Nat.not_lt_zero _)
    | succ fuel ih4 =>
      intro i hi hfu
      have hB := fB_lt (fun f => decide (p0 &&& (Wf f ^^^ (-1)) = 0)) i
      refine g_iload_n 4 O dX5_factsSoInAll_4 rfl 0 rfl ?_
      refine g_bipush 5 O (v := 6) dX5_factsSoInAll_5 (by decide) ?_
      refine g_icmp_ge 7 O 37 dX5_factsSoInAll_7 (by decide) (fun h7 => ?_) (fun h7 => ?_)
      · -- taken
        have e : i = 6 := by have := ge_of_le (n := 6) (by omega) (by decide) h7; omega
        subst e
        refine g_iload_n 37 O dX5_factsSoInAll_37 rfl 1 rfl ?_
        exact g_iret 38 O dX5_factsSoInAll_38 (by rw [hP0]; exact ⟨rfl, rfl⟩)
      · -- not taken
        have hlt : i < 6 := lt_of_nge (n := 6) (by omega) h7
        have h26 := p6 i hlt
        refine g_lload_n 10 O dX5_factsSoInAll_10 rfl 2 rfl ?_
        refine g_iload_n 11 O dX5_factsSoInAll_11 rfl 0 rfl ?_
        refine g_callS 12 O (na := 1) (av := [.int (nI i)]) (c_X5_worldsOfFact l E _ _ (nI i) i rfl (by omega)) kl_X5_306 ks_X5_worldsOfFact ki_X5 kc_X5_worldsOfFact (by decide +kernel) rfl (Nat.le_of_ble_eq_true rfl) (Nat.le_of_ble_eq_true rfl) (fun _ h => h) (fun s => s) (fun _ _ _ _ h => h) rfl (Nat.le_of_ble_eq_true rfl) dX5_factsSoInAll_12 (fun v9 s9 hv9 => ?_)
        obtain ⟨rfl, rfl⟩ := hv9
        refine g_ldc2 15 O (v := (-1)) dX5_factsSoInAll_15 kk_X5_309 ?_
        refine g_lxor 18 O dX5_factsSoInAll_18 ?_
        refine g_land 19 O dX5_factsSoInAll_19 ?_
        refine g_lconst 20 O (v := 0) dX5_factsSoInAll_20 (by decide) ?_
        refine g_lcmp 21 O dX5_factsSoInAll_21 ?_
        refine g_if_ne 22 O 31 dX5_factsSoInAll_22 (by decide) (fun h22 => ?_) (fun h22 => ?_)
        · -- taken
          have eB : fB (fun f => decide (p0 &&& (Wf f ^^^ (-1)) = 0)) i = fB (fun f => decide (p0 &&& (Wf f ^^^ (-1)) = 0)) (i + 1) := by rw [fB, if_neg (by rw [decide_eq_false (lc1 h22)]; decide), Nat.add_zero]
          rw [show (nI (fB (fun f => decide (p0 &&& (Wf f ^^^ (-1)) = 0)) i) : Int32) = nI (fB (fun f => decide (p0 &&& (Wf f ^^^ (-1)) = 0)) (i + 1)) from by rw [eB]]
          refine g_iinc 31 O (v := nI (i + 1)) (q := 0) (lv' := [(3, .int (nI (i + 1))), (2, .int (nI (fB (fun f => decide (p0 &&& (Wf f ^^^ (-1)) = 0)) (i + 1)))), (0, .long p0)]) dX5_factsSoInAll_31 rfl (nI_1 i) (by decide) rfl ?_
          refine g_goto 34 O 4 dX5_factsSoInAll_34 (by decide) ?_
          refine g_sub [0, 1, 2] (lv' := [(3, .int (nI (i + 1))), (2, .int (nI (fB (fun f => decide (p0 &&& (Wf f ^^^ (-1)) = 0)) (i + 1)))), (0, .long p0)]) rfl ?_
          exact ih4 (i + 1) (by omega) (by omega)
        · -- not taken
          have eB : fB (fun f => decide (p0 &&& (Wf f ^^^ (-1)) = 0)) i + 2 ^ i = fB (fun f => decide (p0 &&& (Wf f ^^^ (-1)) = 0)) (i + 1) := by rw [fB, if_pos (decide_eq_true (lc0 h22))]
          refine g_iload_n 25 O dX5_factsSoInAll_25 rfl 1 rfl ?_
          refine g_iconst 26 O (v := 1) dX5_factsSoInAll_26 (by decide) ?_
          refine g_iload_n 27 O dX5_factsSoInAll_27 rfl 0 rfl ?_
          refine g_ishl 28 O dX5_factsSoInAll_28 ?_
          refine g_ior 29 O dX5_factsSoInAll_29 ?_
          refine g_si (nI (fB (fun f => decide (p0 &&& (Wf f ^^^ (-1)) = 0)) (i + 1))) (by rw [← eB]; exact orI i hlt _ (by omega) hB) ?_
          refine g_istore_n 30 O (lv' := [(2, .int (nI (fB (fun f => decide (p0 &&& (Wf f ^^^ (-1)) = 0)) (i + 1)))), (3, .int (nI i)), (0, .long p0)]) dX5_factsSoInAll_30 rfl (by decide) rfl ?_
          refine g_iinc 31 O (v := nI (i + 1)) (q := 1) (lv' := [(3, .int (nI (i + 1))), (2, .int (nI (fB (fun f => decide (p0 &&& (Wf f ^^^ (-1)) = 0)) (i + 1)))), (0, .long p0)]) dX5_factsSoInAll_31 rfl (nI_1 i) (by decide) rfl ?_
          refine g_goto 34 O 4 dX5_factsSoInAll_34 (by decide) ?_
          refine g_sub [0, 1, 2] (lv' := [(3, .int (nI (i + 1))), (2, .int (nI (fB (fun f => decide (p0 &&& (Wf f ^^^ (-1)) = 0)) (i + 1)))), (0, .long p0)]) rfl ?_
          exact ih4 (i + 1) (by omega) (by omega)
  exact L4 _ 0 (Nat.zero_le _) (Nat.lt_succ_self _)

set_option maxRecDepth 100000 in
set_option maxHeartbeats 4000000 in
theorem c_X5_factsSoInNone (l : Launch) (E : Ev) {T : Type} (w : T → va_W) (σ : T) (p0 : Int64)  : Ctr l yX5_factsSoInNone cX5_factsSoInNone 4 (some .int) 1 20 E (w) [.long p0] σ (fun v8 s8 => v8 = some (.int (nI (fB (fun f => decide (p0 &&& Wf f = 0)) 6))) ∧ s8 = σ) := by
  refine Ctr.of' (by decide +kernel) (Nat.le_of_ble_eq_true rfl) (fun X P0 hP0 O => ?_)
  refine g_sub [0] (lv' := [(0, .long p0)]) rfl ?_
  refine g_bipush 0 O (v := 63) dX5_factsSoInNone_0 (by decide) ?_
  refine g_istore_n 2 O (lv' := [(2, .int 63), (0, .long p0)]) dX5_factsSoInNone_2 rfl (by decide) rfl ?_
  refine g_iconst 3 O (v := 0) dX5_factsSoInNone_3 (by decide) ?_
  refine g_istore_n 4 O (lv' := [(3, .int 0), (2, .int 63), (0, .long p0)]) dX5_factsSoInNone_4 rfl (by decide) rfl ?_
  refine g_sub [0, 1, 2] (lv' := [(3, .int 0), (2, .int 63), (0, .long p0)]) rfl ?_
  have L5 : ∀ (fuel : Nat) (i : Nat) (hi : i ≤ 6), 6 - i < fuel → G l E (w) P0 X 4 σ 5 [(3, .int (nI i)), (2, .int (nI (fB (fun f => decide (p0 &&& Wf f = 0)) i + (64 - 2 ^ i)))), (0, .long p0)] [] := by
    intro fuel
    induction fuel with
    | zero => intro i hi hfu; exact absurd hfu (Nat.not_lt_zero _)
    | succ fuel ih5 =>
      intro i hi hfu
      have hB := fB_lt (fun f => decide (p0 &&& Wf f = 0)) i
      refine g_iload_n 5 O dX5_factsSoInNone_5 rfl 0 rfl ?_
      refine g_bipush 6 O (v := 6) dX5_factsSoInNone_6 (by decide) ?_
      refine g_icmp_ge 8 O 36 dX5_factsSoInNone_8 (by decide) (fun h8 => ?_) (fun h8 => ?_)
      · -- taken
        have e : i = 6 := by have := ge_of_le (n := 6) (by omega) (by decide) h8; omega
        subst e
        refine g_iload_n 36 O dX5_factsSoInNone_36 rfl 1 rfl ?_
        exact g_iret 37 O dX5_factsSoInNone_37 (by rw [hP0]; exact ⟨rfl, rfl⟩)
      · -- not taken
        have hlt : i < 6 := lt_of_nge (n := 6) (by omega) h8
        have h26 := p6 i hlt
        have h2p := Nat.two_pow_pos i
        have h2s := Nat.pow_succ 2 i
        refine g_lload_n 11 O dX5_factsSoInNone_11 rfl 2 rfl ?_
        refine g_iload_n 12 O dX5_factsSoInNone_12 rfl 0 rfl ?_
        refine g_callS 13 O (na := 1) (av := [.int (nI i)]) (c_X5_worldsOfFact l E _ _ (nI i) i rfl (by omega)) kl_X5_306 ks_X5_worldsOfFact ki_X5 kc_X5_worldsOfFact (by decide +kernel) rfl (Nat.le_of_ble_eq_true rfl) (Nat.le_of_ble_eq_true rfl) (fun _ h => h) (fun s => s) (fun _ _ _ _ h => h) rfl (Nat.le_of_ble_eq_true rfl) dX5_factsSoInNone_13 (fun v9 s9 hv9 => ?_)
        obtain ⟨rfl, rfl⟩ := hv9
        refine g_land 16 O dX5_factsSoInNone_16 ?_
        refine g_lconst 17 O (v := 0) dX5_factsSoInNone_17 (by decide) ?_
        refine g_lcmp 18 O dX5_factsSoInNone_18 ?_
        refine g_if_eq 19 O 30 dX5_factsSoInNone_19 (by decide) (fun h19 => ?_) (fun h19 => ?_)
        · -- taken
          have eB : fB (fun f => decide (p0 &&& Wf f = 0)) i + (64 - 2 ^ i) = fB (fun f => decide (p0 &&& Wf f = 0)) (i + 1) + (64 - 2 ^ (i + 1)) := by rw [fB, if_pos (decide_eq_true (lc0 h19))]; omega
          rw [show (nI (fB (fun f => decide (p0 &&& Wf f = 0)) i + (64 - 2 ^ i)) : Int32) = nI (fB (fun f => decide (p0 &&& Wf f = 0)) (i + 1) + (64 - 2 ^ (i + 1))) from by rw [eB]]
          refine g_iinc 30 O (v := nI (i + 1)) (q := 0) (lv' := [(3, .int (nI (i + 1))), (2, .int (nI (fB (fun f => decide (p0 &&& Wf f = 0)) (i + 1) + (64 - 2 ^ (i + 1))))), (0, .long p0)]) dX5_factsSoInNone_30 rfl (nI_1 i) (by decide) rfl ?_
          refine g_goto 33 O 5 dX5_factsSoInNone_33 (by decide) ?_
          refine g_sub [0, 1, 2] (lv' := [(3, .int (nI (i + 1))), (2, .int (nI (fB (fun f => decide (p0 &&& Wf f = 0)) (i + 1) + (64 - 2 ^ (i + 1))))), (0, .long p0)]) rfl ?_
          exact ih5 (i + 1) (by omega) (by omega)
        · -- not taken
          have eB : fB (fun f => decide (p0 &&& Wf f = 0)) i = fB (fun f => decide (p0 &&& Wf f = 0)) (i + 1) := by rw [fB, if_neg (by rw [decide_eq_false (lc1 h19)]; decide), Nat.add_zero]
          refine g_iload_n 22 O dX5_factsSoInNone_22 rfl 1 rfl ?_
          refine g_iconst 23 O (v := 1) dX5_factsSoInNone_23 (by decide) ?_
          refine g_iload_n 24 O dX5_factsSoInNone_24 rfl 0 rfl ?_
          refine g_ishl 25 O dX5_factsSoInNone_25 ?_
          refine g_iconst 26 O (v := (-1)) dX5_factsSoInNone_26 (by decide) ?_
          refine g_ixor 27 O dX5_factsSoInNone_27 ?_
          refine g_iand 28 O dX5_factsSoInNone_28 ?_
          refine g_si (nI (fB (fun f => decide (p0 &&& Wf f = 0)) (i + 1) + (64 - 2 ^ (i + 1)))) (by rw [← eB]; exact clI i hlt _ (by omega) hB) ?_
          refine g_istore_n 29 O (lv' := [(2, .int (nI (fB (fun f => decide (p0 &&& Wf f = 0)) (i + 1) + (64 - 2 ^ (i + 1))))), (3, .int (nI i)), (0, .long p0)]) dX5_factsSoInNone_29 rfl (by decide) rfl ?_
          refine g_iinc 30 O (v := nI (i + 1)) (q := 1) (lv' := [(3, .int (nI (i + 1))), (2, .int (nI (fB (fun f => decide (p0 &&& Wf f = 0)) (i + 1) + (64 - 2 ^ (i + 1))))), (0, .long p0)]) dX5_factsSoInNone_30 rfl (nI_1 i) (by decide) rfl ?_
          refine g_goto 33 O 5 dX5_factsSoInNone_33 (by decide) ?_
          refine g_sub [0, 1, 2] (lv' := [(3, .int (nI (i + 1))), (2, .int (nI (fB (fun f => decide (p0 &&& Wf f = 0)) (i + 1) + (64 - 2 ^ (i + 1))))), (0, .long p0)]) rfl ?_
          exact ih5 (i + 1) (by omega) (by omega)
  exact L5 _ 0 (Nat.zero_le _) (Nat.lt_succ_self _)

theorem mx_nI {a b : Nat} (ha : a < 2 ^ 31) (hb : b < 2 ^ 31) : (if nI a < nI b then nI b else nI a) = nI (max a b) := by
  by_cases h : a < b
  · rw [if_pos ((nI_ltI ha hb).mpr h), Nat.max_eq_right (Nat.le_of_lt h)]
  · rw [if_neg (fun q => h ((nI_ltI ha hb).mp q)), Nat.max_eq_left (by omega)]

set_option maxRecDepth 100000 in
set_option maxHeartbeats 4000000 in
theorem c_X5_leftAtWorst (l : Launch) (E : Ev) (a : Nat → Nat) (w rds sd ad : Int32) (pg : Pc) (sn : Nat → Int32) (s0 s1 s2 : Sc) (h : Hc) (t : Tc) (ik iw ir : Int32) (ih : Hc) (it : Tc) (p0 : Int32) (z : Nat → Nat) (y : Sy) (hs : SyA s0 z y) (f : Nat) (hp : p0 = nI f) (hf : f < 6) : Ctr l yX5_leftAtWorst cX5_leftAtWorst 4 (some .int) 1 21 E (wX E a) [.ref (a 0), .int p0] (((w, rds, sd, ad), pg, sn, s0, s1, s2, h, t, (ik, iw, ir), ih, it)) (fun v8 s8 => v8 = some (.int (nI (lw (som z y) f))) ∧ s8 = ((w, rds, sd, ad), pg, sn, s0, s1, s2, h, t, (ik, iw, ir), ih, it)) := by
  refine Ctr.of' (by decide +kernel) (Nat.le_of_ble_eq_true rfl) (fun X P0 hP0 O => ?_)
  refine g_sub [0, 1] (lv' := [(0, .ref (a 0)), (1, .int p0)]) rfl ?_
  refine g_aload_n 0 O dX5_leftAtWorst_0 rfl 0 rfl ?_
  refine g_get 1 O (v := .ref (a 4)) inX5 0 rfl rfl 2 (by decide) kf_X5_23 rfl dX5_leftAtWorst_1 ?_
  refine g_getN 4 O (v := .long s0.1.2.2.2.2) inX3 4 rfl rfl 10 (by decide) (fun _ h => h.2.2.2.2.2.2.1) rfl dX5_leftAtWorst_4 ?_
  refine g_sl (som z y) (hs.2.2.2.2.2) ?_
  refine g_iload_n 7 O dX5_leftAtWorst_7 rfl 1 rfl ?_
  refine g_callS 8 O (na := 1) (av := [.int p0]) (c_X5_worldsOfFact l E _ _ p0 f hp hf) kl_X5_306 ks_X5_worldsOfFact ki_X5 kc_X5_worldsOfFact (by decide +kernel) rfl (Nat.le_of_ble_eq_true rfl) (Nat.le_of_ble_eq_true rfl) (fun _ h => h) (fun s => s) (fun _ _ _ _ h => h) rfl (Nat.le_of_ble_eq_true rfl) dX5_leftAtWorst_8 (fun v9 s9 hv9 => ?_)
  obtain ⟨rfl, rfl⟩ := hv9
  refine g_land 11 O dX5_leftAtWorst_11 ?_
  refine g_callX 12 O (na := 1) (av := [.long ((som z y) &&& (Wf f))]) (c_J13_bitCount_95d88 l E _ _ ((som z y) &&& (Wf f))) kl_X5_108 ks_J13_bitCount_95d88 ki_J13 kc_J13_bitCount_95d88 (by decide +kernel) rfl (Nat.le_of_ble_eq_true rfl) (Nat.le_of_ble_eq_true rfl) (fun _ h => h) (fun s => s) (fun _ _ _ _ h => h) rfl (Nat.le_of_ble_eq_true rfl) dX5_leftAtWorst_12 (fun v9 s9 hv9 => ?_)
  obtain ⟨rfl, rfl⟩ := hv9
  refine g_istore_n 15 O (lv' := [(2, .int (nI (pcn ((som z y) &&& (Wf f))))), (0, .ref (a 0)), (1, .int p0)]) dX5_leftAtWorst_15 rfl (by decide) rfl ?_
  refine g_aload_n 16 O dX5_leftAtWorst_16 rfl 1 rfl ?_
  refine g_get 17 O (v := .ref (a 4)) inX5 0 rfl rfl 2 (by decide) kf_X5_23 rfl dX5_leftAtWorst_17 ?_
  refine g_getN 20 O (v := .long s0.1.2.2.2.2) inX3 4 rfl rfl 10 (by decide) (fun _ h => h.2.2.2.2.2.2.1) rfl dX5_leftAtWorst_20 ?_
  refine g_sl (som z y) (hs.2.2.2.2.2) ?_
  refine g_iload_n 23 O dX5_leftAtWorst_23 rfl 2 rfl ?_
  refine g_callS 24 O (na := 1) (av := [.int p0]) (c_X5_worldsOfFact l E _ _ p0 f hp hf) kl_X5_306 ks_X5_worldsOfFact ki_X5 kc_X5_worldsOfFact (by decide +kernel) rfl (Nat.le_of_ble_eq_true rfl) (Nat.le_of_ble_eq_true rfl) (fun _ h => h) (fun s => s) (fun _ _ _ _ h => h) rfl (Nat.le_of_ble_eq_true rfl) dX5_leftAtWorst_24 (fun v9 s9 hv9 => ?_)
  obtain ⟨rfl, rfl⟩ := hv9
  refine g_ldc2 27 O (v := (-1)) dX5_leftAtWorst_27 kk_X5_309 ?_
  refine g_lxor 30 O dX5_leftAtWorst_30 ?_
  refine g_land 31 O dX5_leftAtWorst_31 ?_
  refine g_callX 32 O (na := 1) (av := [.long ((som z y) &&& ((Wf f) ^^^ ((-1))))]) (c_J13_bitCount_95d88 l E _ _ ((som z y) &&& ((Wf f) ^^^ ((-1))))) kl_X5_108 ks_J13_bitCount_95d88 ki_J13 kc_J13_bitCount_95d88 (by decide +kernel) rfl (Nat.le_of_ble_eq_true rfl) (Nat.le_of_ble_eq_true rfl) (fun _ h => h) (fun s => s) (fun _ _ _ _ h => h) rfl (Nat.le_of_ble_eq_true rfl) dX5_leftAtWorst_32 (fun v9 s9 hv9 => ?_)
  obtain ⟨rfl, rfl⟩ := hv9
  refine g_istore_n 35 O (lv' := [(3, .int (nI (pcn ((som z y) &&& ((Wf f) ^^^ ((-1))))))), (2, .int (nI (pcn ((som z y) &&& (Wf f))))), (0, .ref (a 0)), (1, .int p0)]) dX5_leftAtWorst_35 rfl (by decide) rfl ?_
  refine g_iload_n 36 O dX5_leftAtWorst_36 rfl 1 rfl ?_
  refine g_iload_n 37 O dX5_leftAtWorst_37 rfl 0 rfl ?_
  refine g_callX 38 O (na := 2) (av := [.int (nI (pcn ((som z y) &&& (Wf f)))), .int (nI (pcn ((som z y) &&& ((Wf f) ^^^ ((-1))))))]) (c_J9_max_7cf53 l E _ _ (nI (pcn ((som z y) &&& (Wf f)))) (nI (pcn ((som z y) &&& ((Wf f) ^^^ ((-1))))))) kl_X5_311 ks_J9_max_7cf53 ki_J9 kc_J9_max_7cf53 (by decide +kernel) rfl (Nat.le_of_ble_eq_true rfl) (Nat.le_of_ble_eq_true rfl) (fun _ h => h) (fun s => s) (fun _ _ _ _ h => h) rfl (Nat.le_of_ble_eq_true rfl) dX5_leftAtWorst_38 (fun v9 s9 hv9 => ?_)
  obtain ⟨rfl, rfl⟩ := hv9
  refine g_si (nI (lw (som z y) f)) (mx_nI (by have := pcn_le (som z y &&& Wf f); omega) (by have := pcn_le (som z y &&& (Wf f ^^^ (-1))); omega)) ?_
  exact g_iret 41 O dX5_leftAtWorst_41 (by rw [hP0]; exact ⟨rfl, rfl⟩)

theorem SyW_add {lt ng pl : Nat → Int32} {y : Sy} (h : SyW (nI y.1) lt ng pl y) (h4 : y.1 < 4) {c : Nat} {b0 b1 : Int32} (h0 : b0 = bi (decide (12 ≤ c))) (h1 : b1 = bi (decide (6 ≤ c % 12))) : SyW (nI (y.1 + 1)) (upd lt y.1 (nI (c % 6))) (upd ng y.1 b1) (upd pl y.1 b0) (yw y c) := by
  refine ⟨rfl, h4, fun k hk => ?_⟩
  have hk : k < y.1 + 1 := hk
  show upd lt y.1 (nI (c % 6)) k = nI (if k = y.1 then c % 6 else y.2.1 k) ∧ (if k = y.1 then c % 6 else y.2.1 k) < 6 ∧ upd ng y.1 b1 k = bi (if k = y.1 then decide (6 ≤ c % 12) else y.2.2.1 k) ∧ upd pl y.1 b0 k = bi (if k = y.1 then decide (12 ≤ c) else y.2.2.2 k)
  by_cases e : k = y.1
  · subst e
    simp only [upd_s, if_true]
    exact ⟨trivial, Nat.mod_lt _ (by decide), h1, h0⟩
  · simp only [upd_n _ _ e, e, if_false]
    exact h.2.2 k (by omega)

set_option maxRecDepth 100000 in
set_option maxHeartbeats 4000000 in
theorem c_X5_readingsWith (l : Launch) (E : Ev) (a : Nat → Nat) (w rds sd ad : Int32) (pg : Pc) (sn : Nat → Int32) (s0 s1 s2 : Sc) (h : Hc) (t : Tc) (ik iw ir : Int32) (ih : Hc) (it : Tc) (p0 : Int32) (z : Nat → Nat) (y : Sy) (hs : SyA s0 z y) (hz : SnW sn z) (hy4 : y.1 < 4) (c : Nat) (hp : p0 = nI c) (hc : c < 24) (wn : Nat) (hw : w = nI wn) (hw0 : wn < 64) : Ctr l yX5_readingsWith cX5_readingsWith 4 (some .int) 4 106 E (wX E a) [.ref (a 0), .int p0] (((w, rds, sd, ad), pg, sn, s0, s1, s2, h, t, (ik, iw, ir), ih, it)) (pI (fun r x => r = nI (rwt z y wn c) ∧ ∃ s2' : Sc, x = ((w, rds, sd, ad), pg, sn, s0, s1, s2', h, t, (ik, iw, ir), ih, it))) := by
  refine Ctr.of' (by decide +kernel) (Nat.le_of_ble_eq_true rfl) (fun X P0 hP0 O => ?_)
  refine g_sub [0, 1] (lv' := [(0, .ref (a 0)), (1, .int p0)]) rfl ?_
  refine g_iload_n 0 O dX5_readingsWith_0 rfl 1 rfl ?_
  refine g_bipush 1 O (v := 12) dX5_readingsWith_1 (by decide) ?_
  refine g_icmp_lt 3 O 10 dX5_readingsWith_3 (by decide) (fun h3 => ?_) (fun h3 => ?_)
  · -- taken
    have hc12 : ¬ 12 ≤ c := by rw [hp] at h3; have := (nI_ltI (b := 12) (by omega) (by decide)).mp h3; omega
    refine g_iconst 10 O (v := 0) dX5_readingsWith_10 (by decide) ?_
    refine g_istore_n 11 O (lv' := [(2, .int 0), (0, .ref (a 0)), (1, .int p0)]) dX5_readingsWith_11 rfl (by decide) rfl ?_
    refine g_iload_n 12 O dX5_readingsWith_12 rfl 2 rfl ?_
    refine g_bipush 13 O (v := 12) dX5_readingsWith_13 (by decide) ?_
    refine g_irem 15 O dX5_readingsWith_15 (by decide) ?_
    refine g_si (nI (c % 12)) (by rw [hp]; exact pk_rem (d := 12) (by omega) (by decide) (by decide)) ?_
    refine g_bipush 16 O (v := 6) dX5_readingsWith_16 (by decide) ?_
    refine g_icmp_lt 18 O 25 dX5_readingsWith_18 (by decide) (fun h18 => ?_) (fun h18 => ?_)
    · -- taken
      have hc6 : ¬ 6 ≤ c % 12 := by have := (nI_ltI (b := 6) (by omega) (by decide)).mp h18; omega
      refine g_iconst 25 O (v := 0) dX5_readingsWith_25 (by decide) ?_
      refine g_istore_n 26 O (lv' := [(3, .int 0), (2, .int 0), (0, .ref (a 0)), (1, .int p0)]) dX5_readingsWith_26 rfl (by decide) rfl ?_
      refine g_aload_n 27 O dX5_readingsWith_27 rfl 2 rfl ?_
      refine g_get 28 O (v := .ref (a 18)) inX5 0 rfl rfl 4 (by decide) kf_X5_30 rfl dX5_readingsWith_28 ?_
      refine g_aload_n 31 O dX5_readingsWith_31 rfl 2 rfl ?_
      refine g_get 32 O (v := .ref (a 4)) inX5 0 rfl rfl 2 (by decide) kf_X5_23 rfl dX5_readingsWith_32 ?_
      refine g_callV 35 O (na := 1) (av := [.ref (a 4)]) (c_X3_become l E (sh a 18) (sh a 4) (r_s2_s0 E a (w, rds, sd, ad) pg sn s1 h t (ik, iw, ir) ih it) s0 s2.1.1 s2.1.2.1 s2.1.2.2.1 s2.1.2.2.2.1 s2.1.2.2.2.2 s2.2.1 s2.2.2.1 s2.2.2.2.1 s2.2.2.2.2.1 s2.2.2.2.2.2.1 s2.2.2.2.2.2.2 y hs.1) kl_X5_76 km_X3_become kv_X3_become ki_X3 kc_X3_become (by decide +kernel) rfl (Nat.le_of_ble_eq_true rfl) (Nat.le_of_ble_eq_true rfl) (fun H9 h9 => to_s2_s0 E a (w, rds, sd, ad) pg sn s0 s1 s2 h t (ik, iw, ir) ih it H9 h9) 0 rfl rfl (fun s9q => ((w, rds, sd, ad), pg, sn, s0, s1, s9q, h, t, (ik, iw, ir), ih, it)) (fun _ s9q H9 _ h9 => of_s2_s0 E a (w, rds, sd, ad) pg sn s0 s1 h t (ik, iw, ir) ih it s9q H9 h9) rfl (Nat.le_of_ble_eq_true rfl) dX5_readingsWith_35 (fun v9 s9 hv9 => ?_)
      obtain ⟨rfl, lt', ng', pl', rfl, hy'⟩ := hv9
      refine g_aload_n 38 O dX5_readingsWith_38 rfl 2 rfl ?_
      refine g_get 39 O (v := .ref (a 18)) inX5 0 rfl rfl 4 (by decide) kf_X5_30 rfl dX5_readingsWith_39 ?_
      refine g_iload_n 42 O dX5_readingsWith_42 rfl 1 rfl ?_
      refine g_iload_n 43 O dX5_readingsWith_43 rfl 0 rfl ?_
      refine g_iload_n 44 O dX5_readingsWith_44 rfl 3 rfl ?_
      refine g_bipush 45 O (v := 6) dX5_readingsWith_45 (by decide) ?_
      refine g_irem 47 O dX5_readingsWith_47 (by decide) ?_
      refine g_si (nI (c % 6)) (by rw [hp]; exact pk_rem (d := 6) (by omega) (by decide) (by decide)) ?_
      refine g_callV 48 O (na := 3) (av := [.int 0, .int 0, .int (nI (c % 6))]) (c_X3_append l E (sh a 18) (r_s2 E a (w, rds, sd, ad) pg sn s0 s1 h t (ik, iw, ir) ih it) (nI y.1) s2.1.2.1 s2.1.2.2.1 s2.1.2.2.2.1 s2.1.2.2.2.2 lt' ng' pl' s2.2.2.2.2.1 s2.2.2.2.2.2.1 s2.2.2.2.2.2.2 0 0 (nI (c % 6)) y.1 rfl hy4 rfl rfl) kl_X5_316 km_X3_append kv_X3_append ki_X3 kc_X3_append (by decide +kernel) rfl (Nat.le_of_ble_eq_true rfl) (Nat.le_of_ble_eq_true rfl) (fun H9 h9 => to_s2 E a (w, rds, sd, ad) pg sn s0 s1 ((nI y.1, s2.1.2.1, s2.1.2.2.1, s2.1.2.2.2.1, s2.1.2.2.2.2), lt', ng', pl', s2.2.2.2.2.1, s2.2.2.2.2.2.1, s2.2.2.2.2.2.2) h t (ik, iw, ir) ih it H9 h9) 0 rfl rfl (fun s9q => ((w, rds, sd, ad), pg, sn, s0, s1, s9q, h, t, (ik, iw, ir), ih, it)) (fun _ s9q H9 _ h9 => of_s2 E a (w, rds, sd, ad) pg sn s0 s1 h t (ik, iw, ir) ih it s9q H9 h9) rfl (Nat.le_of_ble_eq_true rfl) dX5_readingsWith_48 (fun v9 s9 hv9 => ?_)
      obtain ⟨rfl, rfl⟩ := hv9
      have hy2 := SyW_add hy' hy4 (c := c) (b0 := 0) (b1 := 0) (by rw [decide_eq_false hc12]; rfl) (by rw [decide_eq_false hc6]; rfl)
      refine g_aload_n 51 O dX5_readingsWith_51 rfl 2 rfl ?_
      refine g_get 52 O (v := .ref (a 18)) inX5 0 rfl rfl 4 (by decide) kf_X5_30 rfl dX5_readingsWith_52 ?_
      refine g_aload_n 55 O dX5_readingsWith_55 rfl 2 rfl ?_
      refine g_get 56 O (v := .ref (a 3)) inX5 0 rfl rfl 1 (by decide) kf_X5_16 rfl dX5_readingsWith_56 ?_
      refine g_callV 59 O (na := 1) (av := [.ref (a 3)]) (c_X3_workOutReadings l E (sh a 18) (a 3) (r_s2_sn E a (w, rds, sd, ad) pg s0 s1 h t (ik, iw, ir) ih it) sn (nI (y.1 + 1)) s2.1.2.1 s2.1.2.2.1 s2.1.2.2.2.1 s2.1.2.2.2.2 (upd lt' y.1 (nI (c % 6))) (upd ng' y.1 0) (upd pl' y.1 0) s2.2.2.2.2.1 s2.2.2.2.2.2.1 s2.2.2.2.2.2.2 (yw y c) hy2 z hz) kl_X5_319 km_X3_workOutReadings kv_X3_workOutReadings ki_X3 kc_X3_workOutReadings (by decide +kernel) rfl (Nat.le_of_ble_eq_true rfl) (Nat.le_of_ble_eq_true rfl) (fun H9 h9 => to_s2_sn E a (w, rds, sd, ad) pg sn s0 s1 ((nI (y.1 + 1), s2.1.2.1, s2.1.2.2.1, s2.1.2.2.2.1, s2.1.2.2.2.2), upd lt' y.1 (nI (c % 6)), upd ng' y.1 0, upd pl' y.1 0, s2.2.2.2.2.1, s2.2.2.2.2.2.1, s2.2.2.2.2.2.2) h t (ik, iw, ir) ih it H9 h9) 0 rfl rfl (fun s9q => ((w, rds, sd, ad), pg, sn, s0, s1, s9q, h, t, (ik, iw, ir), ih, it)) (fun _ s9q H9 _ h9 => of_s2_sn E a (w, rds, sd, ad) pg sn s0 s1 h t (ik, iw, ir) ih it s9q H9 h9) rfl (Nat.le_of_ble_eq_true rfl) dX5_readingsWith_59 (fun v9 s9 hv9 => ?_)
      obtain ⟨rfl, t1', t2', tr', rfl, h12⟩ := hv9
      refine g_aload_n 62 O dX5_readingsWith_62 rfl 2 rfl ?_
      refine g_get 63 O (v := .ref (a 18)) inX5 0 rfl rfl 4 (by decide) kf_X5_30 rfl dX5_readingsWith_63 ?_
      refine g_aload_n 66 O dX5_readingsWith_66 rfl 2 rfl ?_
      refine g_get 67 O (v := .int w) inX5 0 rfl rfl 8 (by decide) kf_X5_124 rfl dX5_readingsWith_67 ?_
      refine g_callV 70 O (na := 1) (av := [.int w]) (c_X3_readingsSoIn l E (sh a 18) (r_s2 E a (w, rds, sd, ad) pg sn s0 s1 h t (ik, iw, ir) ih it) (nI (y.1 + 1)) (nI (NR (yw y c))) s2.1.2.2.1 s2.1.2.2.2.1 s2.1.2.2.2.2 (upd lt' y.1 (nI (c % 6))) (upd ng' y.1 0) (upd pl' y.1 0) t1' t2' tr' w (NR (yw y c)) wn rfl (NR_le hy2.2.1) hw hw0) kl_X5_127 km_X3_readingsSoIn kv_X3_readingsSoIn ki_X3 kc_X3_readingsSoIn (by decide +kernel) rfl (Nat.le_of_ble_eq_true rfl) (Nat.le_of_ble_eq_true rfl) (fun H9 h9 => to_s2 E a (w, rds, sd, ad) pg sn s0 s1 ((nI (y.1 + 1), nI (NR (yw y c)), s2.1.2.2.1, s2.1.2.2.2.1, s2.1.2.2.2.2), upd lt' y.1 (nI (c % 6)), upd ng' y.1 0, upd pl' y.1 0, t1', t2', tr') h t (ik, iw, ir) ih it H9 h9) 0 rfl rfl (fun _ => ((w, rds, sd, ad), pg, sn, s0, s1, ((nI (y.1 + 1), nI (NR (yw y c)), s2.1.2.2.1, s2.1.2.2.2.1, s2.1.2.2.2.2), upd lt' y.1 (nI (c % 6)), upd ng' y.1 0, upd pl' y.1 0, t1', t2', tr'), h, t, (ik, iw, ir), ih, it)) (fun _ _ H9 hp h9 => by obtain ⟨-, rfl⟩ := hp; exact of_s2 E a (w, rds, sd, ad) pg sn s0 s1 h t (ik, iw, ir) ih it _ H9 h9) rfl (Nat.le_of_ble_eq_true rfl) dX5_readingsWith_70 (fun v9 s9 hv9 => ?_)
      obtain ⟨rfl, rfl⟩ := hv9
      refine g_si (nI (rwt z y wn c)) (by rw [rwt, cn_cong (fun r hr => by rw [h12 r hr])]) ?_
      exact g_iret 73 O dX5_readingsWith_73 (by rw [hP0]; exact ⟨_, rfl, rfl, _, rfl⟩)
    · -- not taken
      have hc6 : 6 ≤ c % 12 := Nat.not_lt.mp (fun q => h18 ((nI_ltI (b := 6) (by omega) (by decide)).mpr q))
      refine g_iconst 21 O (v := 1) dX5_readingsWith_21 (by decide) ?_
      refine g_goto 22 O 26 dX5_readingsWith_22 (by decide) ?_
      refine g_istore_n 26 O (lv' := [(3, .int 1), (2, .int 0), (0, .ref (a 0)), (1, .int p0)]) dX5_readingsWith_26 rfl (by decide) rfl ?_
      refine g_aload_n 27 O dX5_readingsWith_27 rfl 2 rfl ?_
      refine g_get 28 O (v := .ref (a 18)) inX5 0 rfl rfl 4 (by decide) kf_X5_30 rfl dX5_readingsWith_28 ?_
      refine g_aload_n 31 O dX5_readingsWith_31 rfl 2 rfl ?_
      refine g_get 32 O (v := .ref (a 4)) inX5 0 rfl rfl 2 (by decide) kf_X5_23 rfl dX5_readingsWith_32 ?_
      refine g_callV 35 O (na := 1) (av := [.ref (a 4)]) (c_X3_become l E (sh a 18) (sh a 4) (r_s2_s0 E a (w, rds, sd, ad) pg sn s1 h t (ik, iw, ir) ih it) s0 s2.1.1 s2.1.2.1 s2.1.2.2.1 s2.1.2.2.2.1 s2.1.2.2.2.2 s2.2.1 s2.2.2.1 s2.2.2.2.1 s2.2.2.2.2.1 s2.2.2.2.2.2.1 s2.2.2.2.2.2.2 y hs.1) kl_X5_76 km_X3_become kv_X3_become ki_X3 kc_X3_become (by decide +kernel) rfl (Nat.le_of_ble_eq_true rfl) (Nat.le_of_ble_eq_true rfl) (fun H9 h9 => to_s2_s0 E a (w, rds, sd, ad) pg sn s0 s1 s2 h t (ik, iw, ir) ih it H9 h9) 0 rfl rfl (fun s9q => ((w, rds, sd, ad), pg, sn, s0, s1, s9q, h, t, (ik, iw, ir), ih, it)) (fun _ s9q H9 _ h9 => of_s2_s0 E a (w, rds, sd, ad) pg sn s0 s1 h t (ik, iw, ir) ih it s9q H9 h9) rfl (Nat.le_of_ble_eq_true rfl) dX5_readingsWith_35 (fun v9 s9 hv9 => ?_)
      obtain ⟨rfl, lt', ng', pl', rfl, hy'⟩ := hv9
      refine g_aload_n 38 O dX5_readingsWith_38 rfl 2 rfl ?_
      refine g_get 39 O (v := .ref (a 18)) inX5 0 rfl rfl 4 (by decide) kf_X5_30 rfl dX5_readingsWith_39 ?_
      refine g_iload_n 42 O dX5_readingsWith_42 rfl 1 rfl ?_
      refine g_iload_n 43 O dX5_readingsWith_43 rfl 0 rfl ?_
      refine g_iload_n 44 O dX5_readingsWith_44 rfl 3 rfl ?_
      refine g_bipush 45 O (v := 6) dX5_readingsWith_45 (by decide) ?_
      refine g_irem 47 O dX5_readingsWith_47 (by decide) ?_
      refine g_si (nI (c % 6)) (by rw [hp]; exact pk_rem (d := 6) (by omega) (by decide) (by decide)) ?_
      refine g_callV 48 O (na := 3) (av := [.int 0, .int 1, .int (nI (c % 6))]) (c_X3_append l E (sh a 18) (r_s2 E a (w, rds, sd, ad) pg sn s0 s1 h t (ik, iw, ir) ih it) (nI y.1) s2.1.2.1 s2.1.2.2.1 s2.1.2.2.2.1 s2.1.2.2.2.2 lt' ng' pl' s2.2.2.2.2.1 s2.2.2.2.2.2.1 s2.2.2.2.2.2.2 0 1 (nI (c % 6)) y.1 rfl hy4 rfl rfl) kl_X5_316 km_X3_append kv_X3_append ki_X3 kc_X3_append (by decide +kernel) rfl (Nat.le_of_ble_eq_true rfl) (Nat.le_of_ble_eq_true rfl) (fun H9 h9 => to_s2 E a (w, rds, sd, ad) pg sn s0 s1 ((nI y.1, s2.1.2.1, s2.1.2.2.1, s2.1.2.2.2.1, s2.1.2.2.2.2), lt', ng', pl', s2.2.2.2.2.1, s2.2.2.2.2.2.1, s2.2.2.2.2.2.2) h t (ik, iw, ir) ih it H9 h9) 0 rfl rfl (fun s9q => ((w, rds, sd, ad), pg, sn, s0, s1, s9q, h, t, (ik, iw, ir), ih, it)) (fun _ s9q H9 _ h9 => of_s2 E a (w, rds, sd, ad) pg sn s0 s1 h t (ik, iw, ir) ih it s9q H9 h9) rfl (Nat.le_of_ble_eq_true rfl) dX5_readingsWith_48 (fun v9 s9 hv9 => ?_)
      obtain ⟨rfl, rfl⟩ := hv9
      have hy2 := SyW_add hy' hy4 (c := c) (b0 := 0) (b1 := 1) (by rw [decide_eq_false hc12]; rfl) (by rw [decide_eq_true hc6]; rfl)
      refine g_aload_n 51 O dX5_readingsWith_51 rfl 2 rfl ?_
      refine g_get 52 O (v := .ref (a 18)) inX5 0 rfl rfl 4 (by decide) kf_X5_30 rfl dX5_readingsWith_52 ?_
      refine g_aload_n 55 O dX5_readingsWith_55 rfl 2 rfl ?_
      refine g_get 56 O (v := .ref (a 3)) inX5 0 rfl rfl 1 (by decide) kf_X5_16 rfl dX5_readingsWith_56 ?_
      refine g_callV 59 O (na := 1) (av := [.ref (a 3)]) (c_X3_workOutReadings l E (sh a 18) (a 3) (r_s2_sn E a (w, rds, sd, ad) pg s0 s1 h t (ik, iw, ir) ih it) sn (nI (y.1 + 1)) s2.1.2.1 s2.1.2.2.1 s2.1.2.2.2.1 s2.1.2.2.2.2 (upd lt' y.1 (nI (c % 6))) (upd ng' y.1 1) (upd pl' y.1 0) s2.2.2.2.2.1 s2.2.2.2.2.2.1 s2.2.2.2.2.2.2 (yw y c) hy2 z hz) kl_X5_319 km_X3_workOutReadings kv_X3_workOutReadings ki_X3 kc_X3_workOutReadings (by decide +kernel) rfl (Nat.le_of_ble_eq_true rfl) (Nat.le_of_ble_eq_true rfl) (fun H9 h9 => to_s2_sn E a (w, rds, sd, ad) pg sn s0 s1 ((nI (y.1 + 1), s2.1.2.1, s2.1.2.2.1, s2.1.2.2.2.1, s2.1.2.2.2.2), upd lt' y.1 (nI (c % 6)), upd ng' y.1 1, upd pl' y.1 0, s2.2.2.2.2.1, s2.2.2.2.2.2.1, s2.2.2.2.2.2.2) h t (ik, iw, ir) ih it H9 h9) 0 rfl rfl (fun s9q => ((w, rds, sd, ad), pg, sn, s0, s1, s9q, h, t, (ik, iw, ir), ih, it)) (fun _ s9q H9 _ h9 => of_s2_sn E a (w, rds, sd, ad) pg sn s0 s1 h t (ik, iw, ir) ih it s9q H9 h9) rfl (Nat.le_of_ble_eq_true rfl) dX5_readingsWith_59 (fun v9 s9 hv9 => ?_)
      obtain ⟨rfl, t1', t2', tr', rfl, h12⟩ := hv9
      refine g_aload_n 62 O dX5_readingsWith_62 rfl 2 rfl ?_
      refine g_get 63 O (v := .ref (a 18)) inX5 0 rfl rfl 4 (by decide) kf_X5_30 rfl dX5_readingsWith_63 ?_
      refine g_aload_n 66 O dX5_readingsWith_66 rfl 2 rfl ?_
      refine g_get 67 O (v := .int w) inX5 0 rfl rfl 8 (by decide) kf_X5_124 rfl dX5_readingsWith_67 ?_
      refine g_callV 70 O (na := 1) (av := [.int w]) (c_X3_readingsSoIn l E (sh a 18) (r_s2 E a (w, rds, sd, ad) pg sn s0 s1 h t (ik, iw, ir) ih it) (nI (y.1 + 1)) (nI (NR (yw y c))) s2.1.2.2.1 s2.1.2.2.2.1 s2.1.2.2.2.2 (upd lt' y.1 (nI (c % 6))) (upd ng' y.1 1) (upd pl' y.1 0) t1' t2' tr' w (NR (yw y c)) wn rfl (NR_le hy2.2.1) hw hw0) kl_X5_127 km_X3_readingsSoIn kv_X3_readingsSoIn ki_X3 kc_X3_readingsSoIn (by decide +kernel) rfl (Nat.le_of_ble_eq_true rfl) (Nat.le_of_ble_eq_true rfl) (fun H9 h9 => to_s2 E a (w, rds, sd, ad) pg sn s0 s1 ((nI (y.1 + 1), nI (NR (yw y c)), s2.1.2.2.1, s2.1.2.2.2.1, s2.1.2.2.2.2), upd lt' y.1 (nI (c % 6)), upd ng' y.1 1, upd pl' y.1 0, t1', t2', tr') h t (ik, iw, ir) ih it H9 h9) 0 rfl rfl (fun _ => ((w, rds, sd, ad), pg, sn, s0, s1, ((nI (y.1 + 1), nI (NR (yw y c)), s2.1.2.2.1, s2.1.2.2.2.1, s2.1.2.2.2.2), upd lt' y.1 (nI (c % 6)), upd ng' y.1 1, upd pl' y.1 0, t1', t2', tr'), h, t, (ik, iw, ir), ih, it)) (fun _ _ H9 hp h9 => by obtain ⟨-, rfl⟩ := hp; exact of_s2 E a (w, rds, sd, ad) pg sn s0 s1 h t (ik, iw, ir) ih it _ H9 h9) rfl (Nat.le_of_ble_eq_true rfl) dX5_readingsWith_70 (fun v9 s9 hv9 => ?_)
      obtain ⟨rfl, rfl⟩ := hv9
      refine g_si (nI (rwt z y wn c)) (by rw [rwt, cn_cong (fun r hr => by rw [h12 r hr])]) ?_
      exact g_iret 73 O dX5_readingsWith_73 (by rw [hP0]; exact ⟨_, rfl, rfl, _, rfl⟩)
  · -- not taken
    have hc12 : 12 ≤ c := by rw [hp] at h3; exact Nat.not_lt.mp (fun q => h3 ((nI_ltI (b := 12) (by omega) (by decide)).mpr q))
    refine g_iconst 6 O (v := 1) dX5_readingsWith_6 (by decide) ?_
    refine g_goto 7 O 11 dX5_readingsWith_7 (by decide) ?_
    refine g_istore_n 11 O (lv' := [(2, .int 1), (0, .ref (a 0)), (1, .int p0)]) dX5_readingsWith_11 rfl (by decide) rfl ?_
    refine g_iload_n 12 O dX5_readingsWith_12 rfl 2 rfl ?_
    refine g_bipush 13 O (v := 12) dX5_readingsWith_13 (by decide) ?_
    refine g_irem 15 O dX5_readingsWith_15 (by decide) ?_
    refine g_si (nI (c % 12)) (by rw [hp]; exact pk_rem (d := 12) (by omega) (by decide) (by decide)) ?_
    refine g_bipush 16 O (v := 6) dX5_readingsWith_16 (by decide) ?_
    refine g_icmp_lt 18 O 25 dX5_readingsWith_18 (by decide) (fun h18 => ?_) (fun h18 => ?_)
    · -- taken
      have hc6 : ¬ 6 ≤ c % 12 := by have := (nI_ltI (b := 6) (by omega) (by decide)).mp h18; omega
      refine g_iconst 25 O (v := 0) dX5_readingsWith_25 (by decide) ?_
      refine g_istore_n 26 O (lv' := [(3, .int 0), (2, .int 1), (0, .ref (a 0)), (1, .int p0)]) dX5_readingsWith_26 rfl (by decide) rfl ?_
      refine g_aload_n 27 O dX5_readingsWith_27 rfl 2 rfl ?_
      refine g_get 28 O (v := .ref (a 18)) inX5 0 rfl rfl 4 (by decide) kf_X5_30 rfl dX5_readingsWith_28 ?_
      refine g_aload_n 31 O dX5_readingsWith_31 rfl 2 rfl ?_
      refine g_get 32 O (v := .ref (a 4)) inX5 0 rfl rfl 2 (by decide) kf_X5_23 rfl dX5_readingsWith_32 ?_
      refine g_callV 35 O (na := 1) (av := [.ref (a 4)]) (c_X3_become l E (sh a 18) (sh a 4) (r_s2_s0 E a (w, rds, sd, ad) pg sn s1 h t (ik, iw, ir) ih it) s0 s2.1.1 s2.1.2.1 s2.1.2.2.1 s2.1.2.2.2.1 s2.1.2.2.2.2 s2.2.1 s2.2.2.1 s2.2.2.2.1 s2.2.2.2.2.1 s2.2.2.2.2.2.1 s2.2.2.2.2.2.2 y hs.1) kl_X5_76 km_X3_become kv_X3_become ki_X3 kc_X3_become (by decide +kernel) rfl (Nat.le_of_ble_eq_true rfl) (Nat.le_of_ble_eq_true rfl) (fun H9 h9 => to_s2_s0 E a (w, rds, sd, ad) pg sn s0 s1 s2 h t (ik, iw, ir) ih it H9 h9) 0 rfl rfl (fun s9q => ((w, rds, sd, ad), pg, sn, s0, s1, s9q, h, t, (ik, iw, ir), ih, it)) (fun _ s9q H9 _ h9 => of_s2_s0 E a (w, rds, sd, ad) pg sn s0 s1 h t (ik, iw, ir) ih it s9q H9 h9) rfl (Nat.le_of_ble_eq_true rfl) dX5_readingsWith_35 (fun v9 s9 hv9 => ?_)
      obtain ⟨rfl, lt', ng', pl', rfl, hy'⟩ := hv9
      refine g_aload_n 38 O dX5_readingsWith_38 rfl 2 rfl ?_
      refine g_get 39 O (v := .ref (a 18)) inX5 0 rfl rfl 4 (by decide) kf_X5_30 rfl dX5_readingsWith_39 ?_
      refine g_iload_n 42 O dX5_readingsWith_42 rfl 1 rfl ?_
      refine g_iload_n 43 O dX5_readingsWith_43 rfl 0 rfl ?_
      refine g_iload_n 44 O dX5_readingsWith_44 rfl 3 rfl ?_
      refine g_bipush 45 O (v := 6) dX5_readingsWith_45 (by decide) ?_
      refine g_irem 47 O dX5_readingsWith_47 (by decide) ?_
      refine g_si (nI (c % 6)) (by rw [hp]; exact pk_rem (d := 6) (by omega) (by decide) (by decide)) ?_
      refine g_callV 48 O (na := 3) (av := [.int 1, .int 0, .int (nI (c % 6))]) (c_X3_append l E (sh a 18) (r_s2 E a (w, rds, sd, ad) pg sn s0 s1 h t (ik, iw, ir) ih it) (nI y.1) s2.1.2.1 s2.1.2.2.1 s2.1.2.2.2.1 s2.1.2.2.2.2 lt' ng' pl' s2.2.2.2.2.1 s2.2.2.2.2.2.1 s2.2.2.2.2.2.2 1 0 (nI (c % 6)) y.1 rfl hy4 rfl rfl) kl_X5_316 km_X3_append kv_X3_append ki_X3 kc_X3_append (by decide +kernel) rfl (Nat.le_of_ble_eq_true rfl) (Nat.le_of_ble_eq_true rfl) (fun H9 h9 => to_s2 E a (w, rds, sd, ad) pg sn s0 s1 ((nI y.1, s2.1.2.1, s2.1.2.2.1, s2.1.2.2.2.1, s2.1.2.2.2.2), lt', ng', pl', s2.2.2.2.2.1, s2.2.2.2.2.2.1, s2.2.2.2.2.2.2) h t (ik, iw, ir) ih it H9 h9) 0 rfl rfl (fun s9q => ((w, rds, sd, ad), pg, sn, s0, s1, s9q, h, t, (ik, iw, ir), ih, it)) (fun _ s9q H9 _ h9 => of_s2 E a (w, rds, sd, ad) pg sn s0 s1 h t (ik, iw, ir) ih it s9q H9 h9) rfl (Nat.le_of_ble_eq_true rfl) dX5_readingsWith_48 (fun v9 s9 hv9 => ?_)
      obtain ⟨rfl, rfl⟩ := hv9
      have hy2 := SyW_add hy' hy4 (c := c) (b0 := 1) (b1 := 0) (by rw [decide_eq_true hc12]; rfl) (by rw [decide_eq_false hc6]; rfl)
      refine g_aload_n 51 O dX5_readingsWith_51 rfl 2 rfl ?_
      refine g_get 52 O (v := .ref (a 18)) inX5 0 rfl rfl 4 (by decide) kf_X5_30 rfl dX5_readingsWith_52 ?_
      refine g_aload_n 55 O dX5_readingsWith_55 rfl 2 rfl ?_
      refine g_get 56 O (v := .ref (a 3)) inX5 0 rfl rfl 1 (by decide) kf_X5_16 rfl dX5_readingsWith_56 ?_
      refine g_callV 59 O (na := 1) (av := [.ref (a 3)]) (c_X3_workOutReadings l E (sh a 18) (a 3) (r_s2_sn E a (w, rds, sd, ad) pg s0 s1 h t (ik, iw, ir) ih it) sn (nI (y.1 + 1)) s2.1.2.1 s2.1.2.2.1 s2.1.2.2.2.1 s2.1.2.2.2.2 (upd lt' y.1 (nI (c % 6))) (upd ng' y.1 0) (upd pl' y.1 1) s2.2.2.2.2.1 s2.2.2.2.2.2.1 s2.2.2.2.2.2.2 (yw y c) hy2 z hz) kl_X5_319 km_X3_workOutReadings kv_X3_workOutReadings ki_X3 kc_X3_workOutReadings (by decide +kernel) rfl (Nat.le_of_ble_eq_true rfl) (Nat.le_of_ble_eq_true rfl) (fun H9 h9 => to_s2_sn E a (w, rds, sd, ad) pg sn s0 s1 ((nI (y.1 + 1), s2.1.2.1, s2.1.2.2.1, s2.1.2.2.2.1, s2.1.2.2.2.2), upd lt' y.1 (nI (c % 6)), upd ng' y.1 0, upd pl' y.1 1, s2.2.2.2.2.1, s2.2.2.2.2.2.1, s2.2.2.2.2.2.2) h t (ik, iw, ir) ih it H9 h9) 0 rfl rfl (fun s9q => ((w, rds, sd, ad), pg, sn, s0, s1, s9q, h, t, (ik, iw, ir), ih, it)) (fun _ s9q H9 _ h9 => of_s2_sn E a (w, rds, sd, ad) pg sn s0 s1 h t (ik, iw, ir) ih it s9q H9 h9) rfl (Nat.le_of_ble_eq_true rfl) dX5_readingsWith_59 (fun v9 s9 hv9 => ?_)
      obtain ⟨rfl, t1', t2', tr', rfl, h12⟩ := hv9
      refine g_aload_n 62 O dX5_readingsWith_62 rfl 2 rfl ?_
      refine g_get 63 O (v := .ref (a 18)) inX5 0 rfl rfl 4 (by decide) kf_X5_30 rfl dX5_readingsWith_63 ?_
      refine g_aload_n 66 O dX5_readingsWith_66 rfl 2 rfl ?_
      refine g_get 67 O (v := .int w) inX5 0 rfl rfl 8 (by decide) kf_X5_124 rfl dX5_readingsWith_67 ?_
      refine g_callV 70 O (na := 1) (av := [.int w]) (c_X3_readingsSoIn l E (sh a 18) (r_s2 E a (w, rds, sd, ad) pg sn s0 s1 h t (ik, iw, ir) ih it) (nI (y.1 + 1)) (nI (NR (yw y c))) s2.1.2.2.1 s2.1.2.2.2.1 s2.1.2.2.2.2 (upd lt' y.1 (nI (c % 6))) (upd ng' y.1 0) (upd pl' y.1 1) t1' t2' tr' w (NR (yw y c)) wn rfl (NR_le hy2.2.1) hw hw0) kl_X5_127 km_X3_readingsSoIn kv_X3_readingsSoIn ki_X3 kc_X3_readingsSoIn (by decide +kernel) rfl (Nat.le_of_ble_eq_true rfl) (Nat.le_of_ble_eq_true rfl) (fun H9 h9 => to_s2 E a (w, rds, sd, ad) pg sn s0 s1 ((nI (y.1 + 1), nI (NR (yw y c)), s2.1.2.2.1, s2.1.2.2.2.1, s2.1.2.2.2.2), upd lt' y.1 (nI (c % 6)), upd ng' y.1 0, upd pl' y.1 1, t1', t2', tr') h t (ik, iw, ir) ih it H9 h9) 0 rfl rfl (fun _ => ((w, rds, sd, ad), pg, sn, s0, s1, ((nI (y.1 + 1), nI (NR (yw y c)), s2.1.2.2.1, s2.1.2.2.2.1, s2.1.2.2.2.2), upd lt' y.1 (nI (c % 6)), upd ng' y.1 0, upd pl' y.1 1, t1', t2', tr'), h, t, (ik, iw, ir), ih, it)) (fun _ _ H9 hp h9 => by obtain ⟨-, rfl⟩ := hp; exact of_s2 E a (w, rds, sd, ad) pg sn s0 s1 h t (ik, iw, ir) ih it _ H9 h9) rfl (Nat.le_of_ble_eq_true rfl) dX5_readingsWith_70 (fun v9 s9 hv9 => ?_)
      obtain ⟨rfl, rfl⟩ := hv9
      refine g_si (nI (rwt z y wn c)) (by rw [rwt, cn_cong (fun r hr => by rw [h12 r hr])]) ?_
      exact g_iret 73 O dX5_readingsWith_73 (by rw [hP0]; exact ⟨_, rfl, rfl, _, rfl⟩)
    · -- not taken
      have hc6 : 6 ≤ c % 12 := Nat.not_lt.mp (fun q => h18 ((nI_ltI (b := 6) (by omega) (by decide)).mpr q))
      refine g_iconst 21 O (v := 1) dX5_readingsWith_21 (by decide) ?_
      refine g_goto 22 O 26 dX5_readingsWith_22 (by decide) ?_
      refine g_istore_n 26 O (lv' := [(3, .int 1), (2, .int 1), (0, .ref (a 0)), (1, .int p0)]) dX5_readingsWith_26 rfl (by decide) rfl ?_
      refine g_aload_n 27 O dX5_readingsWith_27 rfl 2 rfl ?_
      refine g_get 28 O (v := .ref (a 18)) inX5 0 rfl rfl 4 (by decide) kf_X5_30 rfl dX5_readingsWith_28 ?_
      refine g_aload_n 31 O dX5_readingsWith_31 rfl 2 rfl ?_
      refine g_get 32 O (v := .ref (a 4)) inX5 0 rfl rfl 2 (by decide) kf_X5_23 rfl dX5_readingsWith_32 ?_
      refine g_callV 35 O (na := 1) (av := [.ref (a 4)]) (c_X3_become l E (sh a 18) (sh a 4) (r_s2_s0 E a (w, rds, sd, ad) pg sn s1 h t (ik, iw, ir) ih it) s0 s2.1.1 s2.1.2.1 s2.1.2.2.1 s2.1.2.2.2.1 s2.1.2.2.2.2 s2.2.1 s2.2.2.1 s2.2.2.2.1 s2.2.2.2.2.1 s2.2.2.2.2.2.1 s2.2.2.2.2.2.2 y hs.1) kl_X5_76 km_X3_become kv_X3_become ki_X3 kc_X3_become (by decide +kernel) rfl (Nat.le_of_ble_eq_true rfl) (Nat.le_of_ble_eq_true rfl) (fun H9 h9 => to_s2_s0 E a (w, rds, sd, ad) pg sn s0 s1 s2 h t (ik, iw, ir) ih it H9 h9) 0 rfl rfl (fun s9q => ((w, rds, sd, ad), pg, sn, s0, s1, s9q, h, t, (ik, iw, ir), ih, it)) (fun _ s9q H9 _ h9 => of_s2_s0 E a (w, rds, sd, ad) pg sn s0 s1 h t (ik, iw, ir) ih it s9q H9 h9) rfl (Nat.le_of_ble_eq_true rfl) dX5_readingsWith_35 (fun v9 s9 hv9 => ?_)
      obtain ⟨rfl, lt', ng', pl', rfl, hy'⟩ := hv9
      refine g_aload_n 38 O dX5_readingsWith_38 rfl 2 rfl ?_
      refine g_get 39 O (v := .ref (a 18)) inX5 0 rfl rfl 4 (by decide) kf_X5_30 rfl dX5_readingsWith_39 ?_
      refine g_iload_n 42 O dX5_readingsWith_42 rfl 1 rfl ?_
      refine g_iload_n 43 O dX5_readingsWith_43 rfl 0 rfl ?_
      refine g_iload_n 44 O dX5_readingsWith_44 rfl 3 rfl ?_
      refine g_bipush 45 O (v := 6) dX5_readingsWith_45 (by decide) ?_
      refine g_irem 47 O dX5_readingsWith_47 (by decide) ?_
      refine g_si (nI (c % 6)) (by rw [hp]; exact pk_rem (d := 6) (by omega) (by decide) (by decide)) ?_
      refine g_callV 48 O (na := 3) (av := [.int 1, .int 1, .int (nI (c % 6))]) (c_X3_append l E (sh a 18) (r_s2 E a (w, rds, sd, ad) pg sn s0 s1 h t (ik, iw, ir) ih it) (nI y.1) s2.1.2.1 s2.1.2.2.1 s2.1.2.2.2.1 s2.1.2.2.2.2 lt' ng' pl' s2.2.2.2.2.1 s2.2.2.2.2.2.1 s2.2.2.2.2.2.2 1 1 (nI (c % 6)) y.1 rfl hy4 rfl rfl) kl_X5_316 km_X3_append kv_X3_append ki_X3 kc_X3_append (by decide +kernel) rfl (Nat.le_of_ble_eq_true rfl) (Nat.le_of_ble_eq_true rfl) (fun H9 h9 => to_s2 E a (w, rds, sd, ad) pg sn s0 s1 ((nI y.1, s2.1.2.1, s2.1.2.2.1, s2.1.2.2.2.1, s2.1.2.2.2.2), lt', ng', pl', s2.2.2.2.2.1, s2.2.2.2.2.2.1, s2.2.2.2.2.2.2) h t (ik, iw, ir) ih it H9 h9) 0 rfl rfl (fun s9q => ((w, rds, sd, ad), pg, sn, s0, s1, s9q, h, t, (ik, iw, ir), ih, it)) (fun _ s9q H9 _ h9 => of_s2 E a (w, rds, sd, ad) pg sn s0 s1 h t (ik, iw, ir) ih it s9q H9 h9) rfl (Nat.le_of_ble_eq_true rfl) dX5_readingsWith_48 (fun v9 s9 hv9 => ?_)
      obtain ⟨rfl, rfl⟩ := hv9
      have hy2 := SyW_add hy' hy4 (c := c) (b0 := 1) (b1 := 1) (by rw [decide_eq_true hc12]; rfl) (by rw [decide_eq_true hc6]; rfl)
      refine g_aload_n 51 O dX5_readingsWith_51 rfl 2 rfl ?_
      refine g_get 52 O (v := .ref (a 18)) inX5 0 rfl rfl 4 (by decide) kf_X5_30 rfl dX5_readingsWith_52 ?_
      refine g_aload_n 55 O dX5_readingsWith_55 rfl 2 rfl ?_
      refine g_get 56 O (v := .ref (a 3)) inX5 0 rfl rfl 1 (by decide) kf_X5_16 rfl dX5_readingsWith_56 ?_
      refine g_callV 59 O (na := 1) (av := [.ref (a 3)]) (c_X3_workOutReadings l E (sh a 18) (a 3) (r_s2_sn E a (w, rds, sd, ad) pg s0 s1 h t (ik, iw, ir) ih it) sn (nI (y.1 + 1)) s2.1.2.1 s2.1.2.2.1 s2.1.2.2.2.1 s2.1.2.2.2.2 (upd lt' y.1 (nI (c % 6))) (upd ng' y.1 1) (upd pl' y.1 1) s2.2.2.2.2.1 s2.2.2.2.2.2.1 s2.2.2.2.2.2.2 (yw y c) hy2 z hz) kl_X5_319 km_X3_workOutReadings kv_X3_workOutReadings ki_X3 kc_X3_workOutReadings (by decide +kernel) rfl (Nat.le_of_ble_eq_true rfl) (Nat.le_of_ble_eq_true rfl) (fun H9 h9 => to_s2_sn E a (w, rds, sd, ad) pg sn s0 s1 ((nI (y.1 + 1), s2.1.2.1, s2.1.2.2.1, s2.1.2.2.2.1, s2.1.2.2.2.2), upd lt' y.1 (nI (c % 6)), upd ng' y.1 1, upd pl' y.1 1, s2.2.2.2.2.1, s2.2.2.2.2.2.1, s2.2.2.2.2.2.2) h t (ik, iw, ir) ih it H9 h9) 0 rfl rfl (fun s9q => ((w, rds, sd, ad), pg, sn, s0, s1, s9q, h, t, (ik, iw, ir), ih, it)) (fun _ s9q H9 _ h9 => of_s2_sn E a (w, rds, sd, ad) pg sn s0 s1 h t (ik, iw, ir) ih it s9q H9 h9) rfl (Nat.le_of_ble_eq_true rfl) dX5_readingsWith_59 (fun v9 s9 hv9 => ?_)
      obtain ⟨rfl, t1', t2', tr', rfl, h12⟩ := hv9
      refine g_aload_n 62 O dX5_readingsWith_62 rfl 2 rfl ?_
      refine g_get 63 O (v := .ref (a 18)) inX5 0 rfl rfl 4 (by decide) kf_X5_30 rfl dX5_readingsWith_63 ?_
      refine g_aload_n 66 O dX5_readingsWith_66 rfl 2 rfl ?_
      refine g_get 67 O (v := .int w) inX5 0 rfl rfl 8 (by decide) kf_X5_124 rfl dX5_readingsWith_67 ?_
      refine g_callV 70 O (na := 1) (av := [.int w]) (c_X3_readingsSoIn l E (sh a 18) (r_s2 E a (w, rds, sd, ad) pg sn s0 s1 h t (ik, iw, ir) ih it) (nI (y.1 + 1)) (nI (NR (yw y c))) s2.1.2.2.1 s2.1.2.2.2.1 s2.1.2.2.2.2 (upd lt' y.1 (nI (c % 6))) (upd ng' y.1 1) (upd pl' y.1 1) t1' t2' tr' w (NR (yw y c)) wn rfl (NR_le hy2.2.1) hw hw0) kl_X5_127 km_X3_readingsSoIn kv_X3_readingsSoIn ki_X3 kc_X3_readingsSoIn (by decide +kernel) rfl (Nat.le_of_ble_eq_true rfl) (Nat.le_of_ble_eq_true rfl) (fun H9 h9 => to_s2 E a (w, rds, sd, ad) pg sn s0 s1 ((nI (y.1 + 1), nI (NR (yw y c)), s2.1.2.2.1, s2.1.2.2.2.1, s2.1.2.2.2.2), upd lt' y.1 (nI (c % 6)), upd ng' y.1 1, upd pl' y.1 1, t1', t2', tr') h t (ik, iw, ir) ih it H9 h9) 0 rfl rfl (fun _ => ((w, rds, sd, ad), pg, sn, s0, s1, ((nI (y.1 + 1), nI (NR (yw y c)), s2.1.2.2.1, s2.1.2.2.2.1, s2.1.2.2.2.2), upd lt' y.1 (nI (c % 6)), upd ng' y.1 1, upd pl' y.1 1, t1', t2', tr'), h, t, (ik, iw, ir), ih, it)) (fun _ _ H9 hp h9 => by obtain ⟨-, rfl⟩ := hp; exact of_s2 E a (w, rds, sd, ad) pg sn s0 s1 h t (ik, iw, ir) ih it _ H9 h9) rfl (Nat.le_of_ble_eq_true rfl) dX5_readingsWith_70 (fun v9 s9 hv9 => ?_)
      obtain ⟨rfl, rfl⟩ := hv9
      refine g_si (nI (rwt z y wn c)) (by rw [rwt, cn_cong (fun r hr => by rw [h12 r hr])]) ?_
      exact g_iret 73 O dX5_readingsWith_73 (by rw [hP0]; exact ⟨_, rfl, rfl, _, rfl⟩)

theorem fit_t {h : Hr} {t : Tl} {p : Nat} {x : Int64} (hf : ∀ j, j < t.1 - 1 → bh h p x (t.2 j) = t.2 (j + 1)) : fitB h t p x = true := decide_eq_true (fp_all (fun k hk => decide_eq_true (hf k hk)))
theorem fit_f {h : Hr} {t : Tl} {p : Nat} {x : Int64} {i : Nat} (hf : ∀ j, j < i → bh h p x (t.2 j) = t.2 (j + 1)) (hi : i < t.1 - 1) (hx : ¬ bh h p x (t.2 i) = t.2 (i + 1)) : fitB h t p x = false := by
  have e : fp (fun k => decide (bh h p x (t.2 k) = t.2 (k + 1))) (t.1 - 1) = i := fp_stop (fun k hk => decide_eq_true (hf k hk)) (decide_eq_false hx) (Nat.le_of_lt hi) hi
  exact decide_eq_false (by rw [e]; omega)

set_option maxRecDepth 100000 in
set_option maxHeartbeats 4000000 in
theorem c_X5_doesFit (l : Launch) (E : Ev) (a : Nat → Nat) (w rds sd ad : Int32) (pg : Pc) (sn : Nat → Int32) (s0 s1 s2 : Sc) (h : Hc) (t : Tc) (ik iw ir : Int32) (ih : Hc) (it : Tc) (p0 p1 : Int32) (z : Nat → Nat) (y : Sy) (hs : SyA s0 z y) (hr : Hr) (hh : HrW h hr) (p : Nat) (hp : p0 = nI p) (hp0 : p < hr.1) (r : Nat) (hq : p1 = nI r) (hr0 : r < NR y) (tl : Tl) (ht : TlW t tl) (ht0 : 0 < tl.1) : Ctr l yX5_doesFit cX5_doesFit 4 (some .boolean) 3 69 E (wX E a) [.ref (a 0), .int p0, .int p1] (((w, rds, sd, ad), pg, sn, s0, s1, s2, h, t, (ik, iw, ir), ih, it)) (fun v8 s8 => v8 = some (.int (bi (fitB hr tl p (TR z y r)))) ∧ s8 = ((w, rds, sd, ad), pg, sn, s0, s1, s2, h, t, (ik, iw, ir), ih, it)) := by
  refine Ctr.of' (by decide +kernel) (Nat.le_of_ble_eq_true rfl) (fun X P0 hP0 O => ?_)
  refine g_sub [0, 1, 2] (lv' := [(0, .ref (a 0)), (1, .int p0), (2, .int p1)]) rfl ?_
  refine g_iconst 0 O (v := 1) dX5_doesFit_0 (by decide) ?_
  refine g_istore_n 1 O (lv' := [(3, .int 1), (0, .ref (a 0)), (1, .int p0), (2, .int p1)]) dX5_doesFit_1 rfl (by decide) rfl ?_
  refine g_sub [0, 1, 2, 3] (lv' := [(3, .int 1), (0, .ref (a 0)), (1, .int p0), (2, .int p1)]) rfl ?_
  have L2 : ∀ (fuel : Nat) (i : Nat) (hi : i ≤ tl.1 - 1) (hf : ∀ j, j < i → bh hr p (TR z y r) (tl.2 j) = tl.2 (j + 1)), tl.1 - i < fuel → G l E (wX E a) P0 X 4 (((w, rds, sd, ad), pg, sn, s0, s1, s2, h, t, (ik, iw, ir), ih, it)) 2 [(3, .int (nI (i + 1))), (0, .ref (a 0)), (1, .int p0), (2, .int p1)] [] := by
    intro fuel
    induction fuel with
    | zero => intro i hi hf hfu; exact absurd hfu (Nat.not_lt_zero _)
    | succ fuel ih2 =>
      intro i hi hf hfu
      have ht6 := ht.2.1
      refine g_iload_n 2 O dX5_doesFit_2 rfl 0 rfl ?_
      refine g_aload_n 3 O dX5_doesFit_3 rfl 1 rfl ?_
      refine g_get 4 O (v := .ref (a 30)) inX5 0 rfl rfl 6 (by decide) kf_X5_43 rfl dX5_doesFit_4 ?_
      refine g_getN 7 O (v := .int t.1) inX4 30 rfl rfl 1 (by decide) (fun _ h => h.2.2.2.2.2.2.2.2.1) rfl dX5_doesFit_7 ?_
      refine g_icmp_ge 10 O 48 dX5_doesFit_10 (by decide) (fun h10 => ?_) (fun h10 => ?_)
      · -- taken
        have e : i = tl.1 - 1 := by rw [ht.1] at h10; have := ge_of_le (by omega) (by omega) h10; omega
        subst e
        refine g_iconst 48 O (v := 1) dX5_doesFit_48 (by decide) ?_
        exact g_zret (rfl) 49 O dX5_doesFit_49 (by rw [hP0, fit_t hf]; exact ⟨rfl, rfl⟩)
      · -- not taken
        have hlt : i + 1 < tl.1 := by rw [ht.1] at h10; exact lt_of_nge (by omega) h10
        refine g_aload_n 13 O dX5_doesFit_13 rfl 1 rfl ?_
        refine g_iload_n 14 O dX5_doesFit_14 rfl 2 rfl ?_
        refine g_iload_n 15 O dX5_doesFit_15 rfl 3 rfl ?_
        refine g_aload_n 16 O dX5_doesFit_16 rfl 1 rfl ?_
        refine g_get 17 O (v := .ref (a 30)) inX5 0 rfl rfl 6 (by decide) kf_X5_43 rfl dX5_doesFit_17 ?_
        refine g_iload_n 20 O dX5_doesFit_20 rfl 0 rfl ?_
        refine g_iconst 21 O (v := 1) dX5_doesFit_21 (by decide) ?_
        refine g_isub 22 O dX5_doesFit_22 ?_
        refine g_si (nI i) (pk_sub (a := i + 1) (b := 1) (by omega)) ?_
        refine g_callV 23 O (na := 1) (av := [.int (nI i)]) (c_X4_worldAt l E (sh a 30) (r_t E a (w, rds, sd, ad) pg sn s0 s1 s2 h (ik, iw, ir) ih it) t.1 t.2 (nI i) tl.1 i ht.1 ht.2.1 rfl (by omega)) kl_X5_322 km_X4_worldAt kv_X4_worldAt ki_X4 kc_X4_worldAt (by decide +kernel) rfl (Nat.le_of_ble_eq_true rfl) (Nat.le_of_ble_eq_true rfl) (fun H9 h9 => to_t E a (w, rds, sd, ad) pg sn s0 s1 s2 h t (ik, iw, ir) ih it H9 h9) 0 rfl rfl (fun _ => ((w, rds, sd, ad), pg, sn, s0, s1, s2, h, t, (ik, iw, ir), ih, it)) (fun _ _ H9 hp h9 => by obtain ⟨-, rfl⟩ := hp; exact of_t E a (w, rds, sd, ad) pg sn s0 s1 s2 h (ik, iw, ir) ih it _ H9 h9) rfl (Nat.le_of_ble_eq_true rfl) dX5_doesFit_23 (fun v9 s9 hv9 => ?_)
        obtain ⟨rfl, rfl⟩ := hv9
        refine g_si (nI (tl.2 i)) ((ht.2.2 i (by omega)).1) ?_
        refine g_callV 26 O (na := 3) (av := [.int p0, .int p1, .int (nI (tl.2 i))]) (c_X5_behindAct l E a w rds sd ad pg sn s0 s1 s2 h t ik iw ir ih it p0 p1 (nI (tl.2 i)) z y hs hr hh p hp hp0 r hq hr0 (tl.2 i) rfl (ht.2.2 i (by omega)).2) kl_X5_300 km_X5_behindAct kv_X5_behindAct ki_X5 kc_X5_behindAct (by decide +kernel) rfl (Nat.le_of_ble_eq_true rfl) (Nat.le_of_ble_eq_true rfl) (fun _ h => h) 0 rfl rfl (fun s => s) (fun _ _ _ _ h => h) rfl (Nat.le_of_ble_eq_true rfl) dX5_doesFit_26 (fun v9 s9 hv9 => ?_)
        obtain ⟨rfl, rfl⟩ := hv9
        refine g_aload_n 29 O dX5_doesFit_29 rfl 1 rfl ?_
        refine g_get 30 O (v := .ref (a 30)) inX5 0 rfl rfl 6 (by decide) kf_X5_43 rfl dX5_doesFit_30 ?_
        refine g_iload_n 33 O dX5_doesFit_33 rfl 0 rfl ?_
        refine g_callV 34 O (na := 1) (av := [.int (nI (i + 1))]) (c_X4_worldAt l E (sh a 30) (r_t E a (w, rds, sd, ad) pg sn s0 s1 s2 h (ik, iw, ir) ih it) t.1 t.2 (nI (i + 1)) tl.1 (i + 1) ht.1 ht.2.1 rfl (by omega)) kl_X5_322 km_X4_worldAt kv_X4_worldAt ki_X4 kc_X4_worldAt (by decide +kernel) rfl (Nat.le_of_ble_eq_true rfl) (Nat.le_of_ble_eq_true rfl) (fun H9 h9 => to_t E a (w, rds, sd, ad) pg sn s0 s1 s2 h t (ik, iw, ir) ih it H9 h9) 0 rfl rfl (fun _ => ((w, rds, sd, ad), pg, sn, s0, s1, s2, h, t, (ik, iw, ir), ih, it)) (fun _ _ H9 hp h9 => by obtain ⟨-, rfl⟩ := hp; exact of_t E a (w, rds, sd, ad) pg sn s0 s1 s2 h (ik, iw, ir) ih it _ H9 h9) rfl (Nat.le_of_ble_eq_true rfl) dX5_doesFit_34 (fun v9 s9 hv9 => ?_)
        obtain ⟨rfl, rfl⟩ := hv9
        refine g_si (nI (tl.2 (i + 1))) ((ht.2.2 (i + 1) (by omega)).1) ?_
        refine g_icmp_eq 37 O 42 dX5_doesFit_37 (by decide) (fun h37 => ?_) (fun h37 => ?_)
        · -- taken
          refine g_iinc 42 O (v := nI (i + 1 + 1)) (q := 0) (lv' := [(3, .int (nI (i + 1 + 1))), (0, .ref (a 0)), (1, .int p0), (2, .int p1)]) dX5_doesFit_42 rfl (nI_1 (i + 1)) (by decide) rfl ?_
          refine g_goto 45 O 2 dX5_doesFit_45 (by decide) ?_
          refine g_sub [0, 1, 2, 3] (lv' := [(3, .int (nI (i + 1 + 1))), (0, .ref (a 0)), (1, .int p0), (2, .int p1)]) rfl ?_
          exact ih2 (i + 1) (by omega) (fun j h => by
            rcases Nat.lt_or_ge j i with q | q
            · exact hf j q
            · have e : j = i := by omega
              subst e; exact (nI_eq (by have := bh_lt hh hp0 (TR z y r) (ht.2.2 j (by omega)).2; omega) (by have := (ht.2.2 (j + 1) (by omega)).2; omega)).mp h37) (by omega)
        · -- not taken
          refine g_iconst 40 O (v := 0) dX5_doesFit_40 (by decide) ?_
          exact g_zret (rfl) 41 O dX5_doesFit_41 (by rw [hP0, fit_f hf (by omega) (fun e => h37 (by rw [e]))]; exact ⟨rfl, rfl⟩)
  exact L2 _ 0 (Nat.zero_le _) (fun j h => absurd h (Nat.not_lt_zero _)) (Nat.lt_succ_self _)
