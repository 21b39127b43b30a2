theorem sw2 (p : Int32) : p = 0 ∨ p = 1 ∨ (¬ p = 0 ∧ ¬ p = 1) := by
  by_cases h : p = 0
  · exact Or.inl h
  · by_cases h1 : p = 1
    · exact Or.inr (Or.inl h1)
    · exact Or.inr (Or.inr ⟨h, h1⟩)
theorem swN (p : Int32) (n : Nat) (hn : n < 2 ^ 31) : (∃ k : Nat, k ≤ n ∧ p = nI k) ∨ (p.toInt < 0 ∨ (n : Int) < p.toInt) := by
  by_cases h : 0 ≤ p.toInt ∧ p.toInt ≤ n
  · obtain ⟨h0, h1⟩ := h
    obtain ⟨j, hj⟩ := Int.eq_ofNat_of_zero_le h0
    refine Or.inl ⟨j, by omega, Int32.toInt_inj.mp ?_⟩
    rw [hj, nI_toInt (by omega)]
  · exact Or.inr (by omega)
theorem sw5 (p : Int32) : p = 0 ∨ p = 1 ∨ p = 2 ∨ p = 3 ∨ p = 4 ∨ p = 5 ∨ (p.toInt < 0 ∨ 5 < p.toInt) := by
  rcases swN p 5 (by decide) with ⟨k, hk, rfl⟩ | h
  · have h : k = 0 ∨ k = 1 ∨ k = 2 ∨ k = 3 ∨ k = 4 ∨ k = 5 := by omega
    rcases h with rfl | rfl | rfl | rfl | rfl | rfl
    · exact Or.inl rfl
    · exact Or.inr (Or.inl rfl)
    · exact Or.inr (Or.inr (Or.inl rfl))
    · exact Or.inr (Or.inr (Or.inr (Or.inl rfl)))
    · exact Or.inr (Or.inr (Or.inr (Or.inr (Or.inl rfl))))
    · exact Or.inr (Or.inr (Or.inr (Or.inr (Or.inr (Or.inl rfl)))))
  · exact Or.inr (Or.inr (Or.inr (Or.inr (Or.inr (Or.inr h)))))
theorem sw9 (p : Int32) : p = 0 ∨ p = 1 ∨ p = 2 ∨ p = 3 ∨ p = 4 ∨ p = 5 ∨ p = 6 ∨ p = 7 ∨ p = 8 ∨ p = 9 ∨ (p.toInt < 0 ∨ 9 < p.toInt) := by
  rcases swN p 9 (by decide) with ⟨k, hk, rfl⟩ | h
  · have h : k = 0 ∨ k = 1 ∨ k = 2 ∨ k = 3 ∨ k = 4 ∨ k = 5 ∨ k = 6 ∨ k = 7 ∨ k = 8 ∨ k = 9 := by omega
    rcases h with rfl | rfl | rfl | rfl | rfl | rfl | rfl | rfl | rfl | rfl
    · exact Or.inl rfl
    · exact Or.inr (Or.inl rfl)
    · exact Or.inr (Or.inr (Or.inl rfl))
    · exact Or.inr (Or.inr (Or.inr (Or.inl rfl)))
    · exact Or.inr (Or.inr (Or.inr (Or.inr (Or.inl rfl))))
    · exact Or.inr (Or.inr (Or.inr (Or.inr (Or.inr (Or.inl rfl)))))
    · exact Or.inr (Or.inr (Or.inr (Or.inr (Or.inr (Or.inr (Or.inl rfl))))))
    · exact Or.inr (Or.inr (Or.inr (Or.inr (Or.inr (Or.inr (Or.inr (Or.inl rfl)))))))
    · exact Or.inr (Or.inr (Or.inr (Or.inr (Or.inr (Or.inr (Or.inr (Or.inr (Or.inl rfl))))))))
    · exact Or.inr (Or.inr (Or.inr (Or.inr (Or.inr (Or.inr (Or.inr (Or.inr (Or.inr (Or.inl rfl)))))))))
  · exact Or.inr (Or.inr (Or.inr (Or.inr (Or.inr (Or.inr (Or.inr (Or.inr (Or.inr (Or.inr h)))))))))
theorem sw9_out {p : Int32} (h : p.toInt < 0 ∨ 9 < p.toInt) : ¬ p = 0 ∧ ¬ p = 1 ∧ ¬ p = 2 ∧ ¬ p = 3 ∧ ¬ p = 4 ∧ ¬ p = 5 ∧ ¬ p = 6 ∧ ¬ p = 7 ∧ ¬ p = 8 ∧ ¬ p = 9 := by
  refine ⟨?_, ?_, ?_, ?_, ?_, ?_, ?_, ?_, ?_, ?_⟩ <;> (intro e; subst e; revert h; decide)
theorem nle_of {p : Int32} (h : p.toInt < 0 ∨ 5 < p.toInt) : ¬ (0 ≤ p ∧ p ≤ 5) := by
  intro q
  obtain ⟨k, hk, rfl, -⟩ := rng_le (n := 5) (by decide) q
  rw [nI_toInt (by omega)] at h
  omega

set_option maxRecDepth 100000 in
set_option maxHeartbeats 4000000 in
theorem c_X5_fault (l : Launch) (E : Ev) (a : Nat → Nat) (w rds sd ad : Int32) (pg : Pc) (sn : Nat → Int32) (s0 s1 s2 : Sc) (h : Hc) (t : Tc) (ik iw ir : Int32) (ih : Hc) (it : Tc) (p0 : Int32) (pn : Nat) (pc : Nat → Int32) (hpg : pg = (nI pn, pc)) (hpn : pn ≤ 14) : Ctr l yX5_fault cX5_fault 2 (some .int) 2 46 E (wX E a) [.ref (a 0), .int p0] (((w, rds, sd, ad), pg, sn, s0, s1, s2, h, t, (ik, iw, ir), ih, it)) (fun v8 s8 => v8 = some (.int (A_fault (pn, pc) p0)) ∧ s8 = ((w, rds, sd, ad), pg, sn, s0, s1, s2, h, t, (ik, iw, ir), ih, it)) := by
  refine Ctr.of' (by decide +kernel) (Nat.le_of_ble_eq_true rfl) (fun X P0 hP0 O => ?_)
  refine g_sub [0, 1] (lv' := [(0, .ref (a 0)), (1, .int p0)]) rfl ?_
  refine g_iload_n 0 O dX5_fault_0 rfl 1 rfl ?_
  rcases sw2 p0 with c0 | c0 | c0
  ·
    refine g_si 0 (c0) ?_
    refine g_look 1 O 28 dX5_fault_1 (by decide) rfl (by decide) ?_
    refine g_aload_n 28 O dX5_fault_28 rfl 0 rfl ?_
    refine g_get 29 O (v := .ref (a 1)) inX5 0 rfl rfl 0 (by decide) kf_X5_10 rfl dX5_fault_29 ?_
    refine g_callV 32 O (na := 0) (av := []) (c_X2_faultAsSaying l E (sh a 1) (r_pg E a (w, rds, sd, ad) sn s0 s1 s2 h t (ik, iw, ir) ih it) pg.1 pg.2 pn (by rw [hpg]) hpn) kl_X5_66 km_X2_faultAsSaying kv_X2_faultAsSaying ki_X2 kc_X2_faultAsSaying (by decide +kernel) rfl (Nat.le_of_ble_eq_true rfl) (Nat.le_of_ble_eq_true rfl) (fun H9 h9 => to_pg E a (w, rds, sd, ad) pg sn s0 s1 s2 h t (ik, iw, ir) ih it H9 h9) 0 rfl rfl (fun _ => ((w, rds, sd, ad), pg, sn, s0, s1, s2, h, t, (ik, iw, ir), ih, it)) (fun _ _ H9 hp h9 => by obtain ⟨-, rfl⟩ := hp; exact of_pg E a (w, rds, sd, ad) sn s0 s1 s2 h t (ik, iw, ir) ih it _ H9 h9) rfl (Nat.le_of_ble_eq_true rfl) dX5_fault_32 (fun v9 s9 hv9 => ?_)
    obtain ⟨rfl, rfl⟩ := hv9
    exact g_iret 35 O dX5_fault_35 (by rw [hP0, A_fault, if_pos c0, hpg]; exact ⟨rfl, rfl⟩)
  ·
    refine g_si 1 (c0) ?_
    refine g_look 1 O 36 dX5_fault_1 (by decide) rfl (by decide) ?_
    refine g_aload_n 36 O dX5_fault_36 rfl 0 rfl ?_
    refine g_get 37 O (v := .ref (a 1)) inX5 0 rfl rfl 0 (by decide) kf_X5_10 rfl dX5_fault_37 ?_
    refine g_callV 40 O (na := 0) (av := []) (c_X2_faultAsSenses l E (sh a 1) (r_pg E a (w, rds, sd, ad) sn s0 s1 s2 h t (ik, iw, ir) ih it) pg.1 pg.2 pn (by rw [hpg]) hpn) kl_X5_69 km_X2_faultAsSenses kv_X2_faultAsSenses ki_X2 kc_X2_faultAsSenses (by decide +kernel) rfl (Nat.le_of_ble_eq_true rfl) (Nat.le_of_ble_eq_true rfl) (fun H9 h9 => to_pg E a (w, rds, sd, ad) pg sn s0 s1 s2 h t (ik, iw, ir) ih it H9 h9) 0 rfl rfl (fun _ => ((w, rds, sd, ad), pg, sn, s0, s1, s2, h, t, (ik, iw, ir), ih, it)) (fun _ _ H9 hp h9 => by obtain ⟨-, rfl⟩ := hp; exact of_pg E a (w, rds, sd, ad) sn s0 s1 s2 h t (ik, iw, ir) ih it _ H9 h9) rfl (Nat.le_of_ble_eq_true rfl) dX5_fault_40 (fun v9 s9 hv9 => ?_)
    obtain ⟨rfl, rfl⟩ := hv9
    exact g_iret 43 O dX5_fault_43 (by rw [hP0, A_fault, if_neg (by rw [c0]; decide), if_pos c0, hpg]; exact ⟨rfl, rfl⟩)
  ·
    refine g_look 1 O (off := 43) 44 dX5_fault_1 (by decide) ((lv_osw c0.1 rfl).trans ((lv_osw c0.2 rfl).trans rfl)) (by decide) ?_
    refine g_bipush 44 O (v := (-102)) dX5_fault_44 (by decide) ?_
    exact g_iret 46 O dX5_fault_46 (by rw [hP0, A_fault, if_neg c0.1, if_neg c0.2]; exact ⟨rfl, rfl⟩)

set_option maxRecDepth 100000 in
set_option maxHeartbeats 4000000 in
theorem c_X5_sense (l : Launch) (E : Ev) (a : Nat → Nat) (w rds sd ad : Int32) (pg : Pc) (sn : Nat → Int32) (s0 s1 s2 : Sc) (h : Hc) (t : Tc) (ik iw ir : Int32) (ih : Hc) (it : Tc) (p0 : Int32) (z : Nat → Nat) (hz : SnW sn z) : Ctr l yX5_sense cX5_sense 2 (some .int) 0 0 E (wX E a) [.ref (a 0), .int p0] (((w, rds, sd, ad), pg, sn, s0, s1, s2, h, t, (ik, iw, ir), ih, it)) (fun v8 s8 => v8 = some (.int (A_sense z p0)) ∧ s8 = ((w, rds, sd, ad), pg, sn, s0, s1, s2, h, t, (ik, iw, ir), ih, it)) := by
  refine Ctr.of' (by decide +kernel) (Nat.le_of_ble_eq_true rfl) (fun X P0 hP0 O => ?_)
  refine g_sub [0, 1] (lv' := [(0, .ref (a 0)), (1, .int p0)]) rfl ?_
  refine g_iload_n 0 O dX5_sense_0 rfl 1 rfl ?_
  refine g_if_lt 1 O 13 dX5_sense_1 (by decide) (fun h1 => ?_) (fun h1 => ?_)
  · -- taken
    refine g_bipush 13 O (v := (-101)) dX5_sense_13 (by decide) ?_
    exact g_iret 15 O dX5_sense_15 (by rw [hP0, A_sense, if_neg (fun q => Int32.not_le.mpr h1 q.1)]; exact ⟨rfl, rfl⟩)
  · -- not taken
    refine g_iload_n 4 O dX5_sense_4 rfl 1 rfl ?_
    refine g_aload_n 5 O dX5_sense_5 rfl 0 rfl ?_
    refine g_get 6 O (v := .ref (a 3)) inX5 0 rfl rfl 1 (by decide) kf_X5_16 rfl dX5_sense_6 ?_
    refine g_alen 9 O (v := 6) 3 0 rfl rfl rfl dX5_sense_9 ?_
    refine g_icmp_lt 10 O 16 dX5_sense_10 (by decide) (fun h10 => ?_) (fun h10 => ?_)
    · -- taken
      obtain ⟨k, hk0, hk, hkc⟩ := rng_of (n := 6) (by decide) ⟨Int32.not_lt.mp h1, h10⟩
      refine g_aload_n 16 O dX5_sense_16 rfl 0 rfl ?_
      refine g_get 17 O (v := .ref (a 3)) inX5 0 rfl rfl 1 (by decide) kf_X5_16 rfl dX5_sense_17 ?_
      refine g_iload_n 20 O dX5_sense_20 rfl 1 rfl ?_
      refine g_iald 21 O 3 k rfl (hk) (hk0) (by decide) dX5_sense_21 ?_
      exact g_iret 22 O dX5_sense_22 (by rw [hP0, A_sense, if_pos ⟨Int32.not_lt.mp h1, h10⟩, hkc, ← (hz k hk0).1]; exact ⟨rfl, rfl⟩)
    · -- not taken
      refine g_bipush 13 O (v := (-101)) dX5_sense_13 (by decide) ?_
      exact g_iret 15 O dX5_sense_15 (by rw [hP0, A_sense, if_neg (fun q => h10 q.2)]; exact ⟨rfl, rfl⟩)

set_option maxRecDepth 100000 in
set_option maxHeartbeats 4000000 in
theorem c_X5_reading (l : Launch) (E : Ev) (a : Nat → Nat) (w rds sd ad : Int32) (pg : Pc) (sn : Nat → Int32) (s0 s1 s2 : Sc) (h : Hc) (t : Tc) (ik iw ir : Int32) (ih : Hc) (it : Tc) (p0 : Int32) (z : Nat → Nat) (y : Sy) (hs : SyA s0 z y) : Ctr l yX5_reading cX5_reading 2 (some .int) 1 21 E (wX E a) [.ref (a 0), .int p0] (((w, rds, sd, ad), pg, sn, s0, s1, s2, h, t, (ik, iw, ir), ih, it)) (fun v8 s8 => v8 = some (.int (A_reading z y p0)) ∧ s8 = ((w, rds, sd, ad), pg, sn, s0, s1, s2, h, t, (ik, iw, ir), ih, it)) := by
  refine Ctr.of' (by decide +kernel) (Nat.le_of_ble_eq_true rfl) (fun X P0 hP0 O => ?_)
  refine g_sub [0, 1] (lv' := [(0, .ref (a 0)), (1, .int p0)]) rfl ?_
  refine g_aload_n 0 O dX5_reading_0 rfl 0 rfl ?_
  refine g_get 1 O (v := .ref (a 4)) inX5 0 rfl rfl 2 (by decide) kf_X5_23 rfl dX5_reading_1 ?_
  refine g_iload_n 4 O dX5_reading_4 rfl 1 rfl ?_
  refine g_callV 5 O (na := 1) (av := [.int p0]) (c_X3_hasReading l E (sh a 4) (r_s0 E a (w, rds, sd, ad) pg sn s1 s2 h t (ik, iw, ir) ih it) s0.1.1 s0.1.2.1 s0.1.2.2.1 s0.1.2.2.2.1 s0.1.2.2.2.2 s0.2.1 s0.2.2.1 s0.2.2.2.1 s0.2.2.2.2.1 s0.2.2.2.2.2.1 s0.2.2.2.2.2.2 p0) kl_X5_101 km_X3_hasReading kv_X3_hasReading ki_X3 kc_X3_hasReading (by decide +kernel) rfl (Nat.le_of_ble_eq_true rfl) (Nat.le_of_ble_eq_true rfl) (fun H9 h9 => to_s0 E a (w, rds, sd, ad) pg sn s0 s1 s2 h t (ik, iw, ir) ih it H9 h9) 0 rfl rfl (fun _ => ((w, rds, sd, ad), pg, sn, s0, s1, s2, h, t, (ik, iw, ir), ih, it)) (fun _ _ H9 hp h9 => by obtain ⟨-, rfl⟩ := hp; exact of_s0 E a (w, rds, sd, ad) pg sn s1 s2 h t (ik, iw, ir) ih it _ H9 h9) rfl (Nat.le_of_ble_eq_true rfl) dX5_reading_5 (fun v9 s9 hv9 => ?_)
  obtain ⟨rfl, rfl⟩ := hv9
  refine g_si (if okR y p0 then 1 else 0) (by rw [hs.2.1]) ?_
  refine g_if_ne 8 O 14 dX5_reading_8 (by decide) (fun h8 => ?_) (fun h8 => ?_)
  · -- taken
    have hN := NR_le (y := y) hs.1.2.1
    obtain ⟨k, hk0, hk, hkc⟩ := rng_of (by omega) (ite_t h8)
    refine g_aload_n 14 O dX5_reading_14 rfl 0 rfl ?_
    refine g_get 15 O (v := .ref (a 4)) inX5 0 rfl rfl 2 (by decide) kf_X5_23 rfl dX5_reading_15 ?_
    refine g_iload_n 18 O dX5_reading_18 rfl 1 rfl ?_
    refine g_callV 19 O (na := 1) (av := [.int p0]) (c_X3_truth l E (sh a 4) (r_s0 E a (w, rds, sd, ad) pg sn s1 s2 h t (ik, iw, ir) ih it) s0.1.1 s0.1.2.1 s0.1.2.2.1 s0.1.2.2.2.1 s0.1.2.2.2.2 s0.2.1 s0.2.2.1 s0.2.2.2.1 s0.2.2.2.2.1 s0.2.2.2.2.2.1 s0.2.2.2.2.2.2 p0 (NR y) k hs.2.1 hN hk hk0) kl_X5_104 km_X3_truth kv_X3_truth ki_X3 kc_X3_truth (by decide +kernel) rfl (Nat.le_of_ble_eq_true rfl) (Nat.le_of_ble_eq_true rfl) (fun H9 h9 => to_s0 E a (w, rds, sd, ad) pg sn s0 s1 s2 h t (ik, iw, ir) ih it H9 h9) 0 rfl rfl (fun _ => ((w, rds, sd, ad), pg, sn, s0, s1, s2, h, t, (ik, iw, ir), ih, it)) (fun _ _ H9 hp h9 => by obtain ⟨-, rfl⟩ := hp; exact of_s0 E a (w, rds, sd, ad) pg sn s1 s2 h t (ik, iw, ir) ih it _ H9 h9) rfl (Nat.le_of_ble_eq_true rfl) dX5_reading_19 (fun v9 s9 hv9 => ?_)
    obtain ⟨rfl, rfl⟩ := hv9
    refine g_sl (TR z y k) (hs.2.2.1 k hk0) ?_
    refine g_callX 22 O (na := 1) (av := [.long (TR z y k)]) (c_J13_bitCount_95d88 l E _ _ (TR z y k)) kl_X5_108 ks_J13_bitCount_95d88 ki_J13 kc_J13_bitCount_95d88 (by decide +kernel) rfl (Nat.le_of_ble_eq_true rfl) (Nat.le_of_ble_eq_true rfl) (fun _ h => h) (fun s => s) (fun _ _ _ _ h => h) rfl (Nat.le_of_ble_eq_true rfl) dX5_reading_22 (fun v9 s9 hv9 => ?_)
    obtain ⟨rfl, rfl⟩ := hv9
    exact g_iret 25 O dX5_reading_25 (by rw [hP0, A_reading, if_pos (ite_t h8), hkc]; exact ⟨rfl, rfl⟩)
  · -- not taken
    refine g_bipush 11 O (v := (-101)) dX5_reading_11 (by decide) ?_
    exact g_iret 13 O dX5_reading_13 (by rw [hP0, A_reading, if_neg (ite_f h8)]; exact ⟨rfl, rfl⟩)

set_option maxRecDepth 100000 in
set_option maxHeartbeats 4000000 in
theorem c_X5_isSo (l : Launch) (E : Ev) (a : Nat → Nat) (w rds sd ad : Int32) (pg : Pc) (sn : Nat → Int32) (s0 s1 s2 : Sc) (h : Hc) (t : Tc) (ik iw ir : Int32) (ih : Hc) (it : Tc) (p0 p1 : Int32) (z : Nat → Nat) (y : Sy) (hs : SyA s0 z y) : Ctr l yX5_isSo cX5_isSo 3 (some .int) 1 22 E (wX E a) [.ref (a 0), .int p0, .int p1] (((w, rds, sd, ad), pg, sn, s0, s1, s2, h, t, (ik, iw, ir), ih, it)) (fun v8 s8 => v8 = some (.int (A_isSo z y p0 p1)) ∧ s8 = ((w, rds, sd, ad), pg, sn, s0, s1, s2, h, t, (ik, iw, ir), ih, it)) := by
  refine Ctr.of' (by decide +kernel) (Nat.le_of_ble_eq_true rfl) (fun X P0 hP0 O => ?_)
  refine g_sub [0, 1, 2] (lv' := [(0, .ref (a 0)), (1, .int p0), (2, .int p1)]) rfl ?_
  refine g_aload_n 0 O dX5_isSo_0 rfl 0 rfl ?_
  refine g_get 1 O (v := .ref (a 4)) inX5 0 rfl rfl 2 (by decide) kf_X5_23 rfl dX5_isSo_1 ?_
  refine g_iload_n 4 O dX5_isSo_4 rfl 1 rfl ?_
  refine g_callV 5 O (na := 1) (av := [.int p0]) (c_X3_hasReading l E (sh a 4) (r_s0 E a (w, rds, sd, ad) pg sn s1 s2 h t (ik, iw, ir) ih it) s0.1.1 s0.1.2.1 s0.1.2.2.1 s0.1.2.2.2.1 s0.1.2.2.2.2 s0.2.1 s0.2.2.1 s0.2.2.2.1 s0.2.2.2.2.1 s0.2.2.2.2.2.1 s0.2.2.2.2.2.2 p0) kl_X5_101 km_X3_hasReading kv_X3_hasReading ki_X3 kc_X3_hasReading (by decide +kernel) rfl (Nat.le_of_ble_eq_true rfl) (Nat.le_of_ble_eq_true rfl) (fun H9 h9 => to_s0 E a (w, rds, sd, ad) pg sn s0 s1 s2 h t (ik, iw, ir) ih it H9 h9) 0 rfl rfl (fun _ => ((w, rds, sd, ad), pg, sn, s0, s1, s2, h, t, (ik, iw, ir), ih, it)) (fun _ _ H9 hp h9 => by obtain ⟨-, rfl⟩ := hp; exact of_s0 E a (w, rds, sd, ad) pg sn s1 s2 h t (ik, iw, ir) ih it _ H9 h9) rfl (Nat.le_of_ble_eq_true rfl) dX5_isSo_5 (fun v9 s9 hv9 => ?_)
  obtain ⟨rfl, rfl⟩ := hv9
  refine g_si (if okR y p0 then 1 else 0) (by rw [hs.2.1]) ?_
  refine g_if_eq 8 O 18 dX5_isSo_8 (by decide) (fun h8 => ?_) (fun h8 => ?_)
  · -- taken
    refine g_bipush 18 O (v := (-101)) dX5_isSo_18 (by decide) ?_
    exact g_iret 20 O dX5_isSo_20 (by rw [hP0, A_isSo, if_neg (fun q => ite_f h8 q.1)]; exact ⟨rfl, rfl⟩)
  · -- not taken
    have hN := NR_le (y := y) hs.1.2.1
    obtain ⟨k, hk0, hk, hkc⟩ := rng_of (by omega) (ite_t h8)
    refine g_iload_n 11 O dX5_isSo_11 rfl 2 rfl ?_
    refine g_callS 12 O (na := 1) (av := [.int p1]) (c_X5_isWorld l E _ _ p1) kl_X5_114 ks_X5_isWorld ki_X5 kc_X5_isWorld (by decide +kernel) rfl (Nat.le_of_ble_eq_true rfl) (Nat.le_of_ble_eq_true rfl) (fun _ h => h) (fun s => s) (fun _ _ _ _ h => h) rfl (Nat.le_of_ble_eq_true rfl) dX5_isSo_12 (fun v9 s9 hv9 => ?_)
    obtain ⟨rfl, rfl⟩ := hv9
    refine g_if_ne 15 O 21 dX5_isSo_15 (by decide) (fun h15 => ?_) (fun h15 => ?_)
    · -- taken
      obtain ⟨u, hu0, hu, huc⟩ := rng_of (n := 64) (by decide) (ite_t h15)
      refine g_aload_n 21 O dX5_isSo_21 rfl 0 rfl ?_
      refine g_get 22 O (v := .ref (a 4)) inX5 0 rfl rfl 2 (by decide) kf_X5_23 rfl dX5_isSo_22 ?_
      refine g_iload_n 25 O dX5_isSo_25 rfl 1 rfl ?_
      refine g_callV 26 O (na := 1) (av := [.int p0]) (c_X3_truth l E (sh a 4) (r_s0 E a (w, rds, sd, ad) pg sn s1 s2 h t (ik, iw, ir) ih it) s0.1.1 s0.1.2.1 s0.1.2.2.1 s0.1.2.2.2.1 s0.1.2.2.2.2 s0.2.1 s0.2.2.1 s0.2.2.2.1 s0.2.2.2.2.1 s0.2.2.2.2.2.1 s0.2.2.2.2.2.2 p0 (NR y) k hs.2.1 hN hk hk0) kl_X5_104 km_X3_truth kv_X3_truth ki_X3 kc_X3_truth (by decide +kernel) rfl (Nat.le_of_ble_eq_true rfl) (Nat.le_of_ble_eq_true rfl) (fun H9 h9 => to_s0 E a (w, rds, sd, ad) pg sn s0 s1 s2 h t (ik, iw, ir) ih it H9 h9) 0 rfl rfl (fun _ => ((w, rds, sd, ad), pg, sn, s0, s1, s2, h, t, (ik, iw, ir), ih, it)) (fun _ _ H9 hp h9 => by obtain ⟨-, rfl⟩ := hp; exact of_s0 E a (w, rds, sd, ad) pg sn s1 s2 h t (ik, iw, ir) ih it _ H9 h9) rfl (Nat.le_of_ble_eq_true rfl) dX5_isSo_26 (fun v9 s9 hv9 => ?_)
      obtain ⟨rfl, rfl⟩ := hv9
      refine g_iload_n 29 O dX5_isSo_29 rfl 2 rfl ?_
      refine g_callS 30 O (na := 2) (av := [.long (s0.2.2.2.2.2.2 k), .int p1]) (c_X5_bitOf l E _ _ (s0.2.2.2.2.2.2 k) p1) kl_X5_117 ks_X5_bitOf ki_X5 kc_X5_bitOf (by decide +kernel) rfl (Nat.le_of_ble_eq_true rfl) (Nat.le_of_ble_eq_true rfl) (fun _ h => h) (fun s => s) (fun _ _ _ _ h => h) rfl (Nat.le_of_ble_eq_true rfl) dX5_isSo_30 (fun v9 s9 hv9 => ?_)
      obtain ⟨rfl, rfl⟩ := hv9
      refine g_si (bi (tb (TR z y k) u)) (by rw [hs.2.2.1 k hk0, hu]; exact bit64 hu0) ?_
      exact g_iret 33 O dX5_isSo_33 (by rw [hP0, A_isSo, if_pos ⟨ite_t h8, ite_t h15⟩, hkc, huc]; exact ⟨rfl, rfl⟩)
    · -- not taken
      refine g_bipush 18 O (v := (-101)) dX5_isSo_18 (by decide) ?_
      exact g_iret 20 O dX5_isSo_20 (by rw [hP0, A_isSo, if_neg (fun q => ite_f h15 q.2)]; exact ⟨rfl, rfl⟩)

theorem fp_cong {p q : Nat → Bool} : ∀ {n : Nat}, (∀ k, k < n → p k = q k) → fp p n = fp q n
  | 0, _ => rfl
  | n + 1, h => by rw [fp, fp, fp_cong (fun k hk => h k (by omega)), h n (by omega)]
theorem fi_cong {p q : Nat → Bool} {n : Nat} (h : ∀ k, k < n → p k = q k) : fi p n = fi q n := by
  rw [fi, fi, fp_cong (fun k hk => by rw [h k hk])]

set_option maxRecDepth 100000 in
set_option maxHeartbeats 4000000 in
theorem c_X5_come (l : Launch) (E : Ev) (a : Nat → Nat) (w rds sd ad : Int32) (pg : Pc) (sn : Nat → Int32) (s0 s1 s2 : Sc) (h : Hc) (t : Tc) (ik iw ir : Int32) (ih : Hc) (it : Tc) (p0 : Int32) (z : Nat → Nat) (y : Sy) (hs : SyA s0 z y) (wn : Nat) (hw : w = nI wn) (hw0 : wn < 64) : Ctr l yX5_come cX5_come 2 (some .int) 2 45 E (wX E a) [.ref (a 0), .int p0] (((w, rds, sd, ad), pg, sn, s0, s1, s2, h, t, (ik, iw, ir), ih, it)) (fun v8 s8 => v8 = some (.int (A_come z y wn p0)) ∧ s8 = ((w, rds, sd, ad), pg, sn, s0, s1, s2, h, t, (ik, iw, ir), ih, it)) := by
  refine Ctr.of' (by decide +kernel) (Nat.le_of_ble_eq_true rfl) (fun X P0 hP0 O => ?_)
  refine g_sub [0, 1] (lv' := [(0, .ref (a 0)), (1, .int p0)]) rfl ?_
  refine g_iload_n 0 O dX5_come_0 rfl 1 rfl ?_
  refine g_if_lt 1 O 9 dX5_come_1 (by decide) (fun h1 => ?_) (fun h1 => ?_)
  · -- taken
    refine g_bipush 9 O (v := (-102)) dX5_come_9 (by decide) ?_
    exact g_iret 11 O dX5_come_11 (by rw [hP0, A_come, if_neg (fun q => Int32.not_le.mpr h1 q.1)]; exact ⟨rfl, rfl⟩)
  · -- not taken
    refine g_iload_n 4 O dX5_come_4 rfl 1 rfl ?_
    refine g_iconst 5 O (v := 1) dX5_come_5 (by decide) ?_
    refine g_icmp_le 6 O 12 dX5_come_6 (by decide) (fun h6 => ?_) (fun h6 => ?_)
    · -- taken
      refine g_aload_n 12 O dX5_come_12 rfl 0 rfl ?_
      refine g_get 13 O (v := .ref (a 4)) inX5 0 rfl rfl 2 (by decide) kf_X5_23 rfl dX5_come_13 ?_
      refine g_callV 16 O (na := 0) (av := []) (c_X3_isNone l E (sh a 4) (r_s0 E a (w, rds, sd, ad) pg sn s1 s2 h t (ik, iw, ir) ih it) s0.1.1 s0.1.2.1 s0.1.2.2.1 s0.1.2.2.2.1 s0.1.2.2.2.2 s0.2.1 s0.2.2.1 s0.2.2.2.1 s0.2.2.2.2.1 s0.2.2.2.2.2.1 s0.2.2.2.2.2.2 ) kl_X5_121 km_X3_isNone kv_X3_isNone ki_X3 kc_X3_isNone (by decide +kernel) rfl (Nat.le_of_ble_eq_true rfl) (Nat.le_of_ble_eq_true rfl) (fun H9 h9 => to_s0 E a (w, rds, sd, ad) pg sn s0 s1 s2 h t (ik, iw, ir) ih it H9 h9) 0 rfl rfl (fun _ => ((w, rds, sd, ad), pg, sn, s0, s1, s2, h, t, (ik, iw, ir), ih, it)) (fun _ _ H9 hp h9 => by obtain ⟨-, rfl⟩ := hp; exact of_s0 E a (w, rds, sd, ad) pg sn s1 s2 h t (ik, iw, ir) ih it _ H9 h9) rfl (Nat.le_of_ble_eq_true rfl) dX5_come_16 (fun v9 s9 hv9 => ?_)
      obtain ⟨rfl, rfl⟩ := hv9
      refine g_if_eq 19 O 25 dX5_come_19 (by decide) (fun h19 => ?_) (fun h19 => ?_)
      · -- taken
        have hy0 : ¬ y.1 = 0 := fun e => ite_f h19 ((sy0 hs).mpr e)
        refine g_iload_n 25 O dX5_come_25 rfl 1 rfl ?_
        refine g_if_ne 26 O 43 dX5_come_26 (by decide) (fun h26 => ?_) (fun h26 => ?_)
        · -- taken
          refine g_aload_n 43 O dX5_come_43 rfl 0 rfl ?_
          refine g_get 44 O (v := .ref (a 4)) inX5 0 rfl rfl 2 (by decide) kf_X5_23 rfl dX5_come_44 ?_
          refine g_aload_n 47 O dX5_come_47 rfl 0 rfl ?_
          refine g_get 48 O (v := .int w) inX5 0 rfl rfl 8 (by decide) kf_X5_124 rfl dX5_come_48 ?_
          refine g_callV 51 O (na := 1) (av := [.int w]) (c_X3_firstReadingSoIn l E (sh a 4) (r_s0 E a (w, rds, sd, ad) pg sn s1 s2 h t (ik, iw, ir) ih it) s0.1.1 s0.1.2.1 s0.1.2.2.1 s0.1.2.2.2.1 s0.1.2.2.2.2 s0.2.1 s0.2.2.1 s0.2.2.2.1 s0.2.2.2.2.1 s0.2.2.2.2.2.1 s0.2.2.2.2.2.2 w (NR y) wn hs.2.1 (NR_le hs.1.2.1) hw hw0) kl_X5_130 km_X3_firstReadingSoIn kv_X3_firstReadingSoIn ki_X3 kc_X3_firstReadingSoIn (by decide +kernel) rfl (Nat.le_of_ble_eq_true rfl) (Nat.le_of_ble_eq_true rfl) (fun H9 h9 => to_s0 E a (w, rds, sd, ad) pg sn s0 s1 s2 h t (ik, iw, ir) ih it H9 h9) 0 rfl rfl (fun _ => ((w, rds, sd, ad), pg, sn, s0, s1, s2, h, t, (ik, iw, ir), ih, it)) (fun _ _ H9 hp h9 => by obtain ⟨-, rfl⟩ := hp; exact of_s0 E a (w, rds, sd, ad) pg sn s1 s2 h t (ik, iw, ir) ih it _ H9 h9) rfl (Nat.le_of_ble_eq_true rfl) dX5_come_51 (fun v9 s9 hv9 => ?_)
          obtain ⟨rfl, rfl⟩ := hv9
          refine g_si (fi (fun r => tb (TR z y r) wn) (NR y)) (fi_cong (fun r hr => by rw [hs.2.2.1 r hr])) ?_
          exact g_iret 54 O dX5_come_54 (by rw [hP0, A_come, if_pos ⟨Int32.not_lt.mp h1, h6⟩, if_neg hy0, comN, if_neg h26]; exact ⟨rfl, rfl⟩)
        · -- not taken
          refine g_aload_n 29 O dX5_come_29 rfl 0 rfl ?_
          refine g_get 30 O (v := .ref (a 4)) inX5 0 rfl rfl 2 (by decide) kf_X5_23 rfl dX5_come_30 ?_
          refine g_aload_n 33 O dX5_come_33 rfl 0 rfl ?_
          refine g_get 34 O (v := .int w) inX5 0 rfl rfl 8 (by decide) kf_X5_124 rfl dX5_come_34 ?_
          refine g_callV 37 O (na := 1) (av := [.int w]) (c_X3_readingsSoIn l E (sh a 4) (r_s0 E a (w, rds, sd, ad) pg sn s1 s2 h t (ik, iw, ir) ih it) s0.1.1 s0.1.2.1 s0.1.2.2.1 s0.1.2.2.2.1 s0.1.2.2.2.2 s0.2.1 s0.2.2.1 s0.2.2.2.1 s0.2.2.2.2.1 s0.2.2.2.2.2.1 s0.2.2.2.2.2.2 w (NR y) wn hs.2.1 (NR_le hs.1.2.1) hw hw0) kl_X5_127 km_X3_readingsSoIn kv_X3_readingsSoIn ki_X3 kc_X3_readingsSoIn (by decide +kernel) rfl (Nat.le_of_ble_eq_true rfl) (Nat.le_of_ble_eq_true rfl) (fun H9 h9 => to_s0 E a (w, rds, sd, ad) pg sn s0 s1 s2 h t (ik, iw, ir) ih it H9 h9) 0 rfl rfl (fun _ => ((w, rds, sd, ad), pg, sn, s0, s1, s2, h, t, (ik, iw, ir), ih, it)) (fun _ _ H9 hp h9 => by obtain ⟨-, rfl⟩ := hp; exact of_s0 E a (w, rds, sd, ad) pg sn s1 s2 h t (ik, iw, ir) ih it _ H9 h9) rfl (Nat.le_of_ble_eq_true rfl) dX5_come_37 (fun v9 s9 hv9 => ?_)
          obtain ⟨rfl, rfl⟩ := hv9
          refine g_goto 40 O 54 dX5_come_40 (by decide) ?_
          refine g_si (nI (cn (fun r => tb (TR z y r) wn) (NR y))) (by rw [cn_cong (fun r hr => by rw [hs.2.2.1 r hr])]) ?_
          exact g_iret 54 O dX5_come_54 (by rw [hP0, A_come, if_pos ⟨Int32.not_lt.mp h1, h6⟩, if_neg hy0, comN, if_pos h26]; exact ⟨rfl, rfl⟩)
      · -- not taken
        refine g_bipush 22 O (v := (-103)) dX5_come_22 (by decide) ?_
        exact g_iret 24 O dX5_come_24 (by rw [hP0, A_come, if_pos ⟨Int32.not_lt.mp h1, h6⟩, if_pos ((sy0 hs).mp (ite_t h19))]; exact ⟨rfl, rfl⟩)
    · -- not taken
      refine g_bipush 9 O (v := (-102)) dX5_come_9 (by decide) ?_
      exact g_iret 11 O dX5_come_11 (by rw [hP0, A_come, if_neg (fun q => h6 q.2)]; exact ⟨rfl, rfl⟩)

set_option maxRecDepth 100000 in
set_option maxHeartbeats 4000000 in
theorem c_X5_fact (l : Launch) (E : Ev) (a : Nat → Nat) (w rds sd ad : Int32) (pg : Pc) (sn : Nat → Int32) (s0 s1 s2 : Sc) (h : Hc) (t : Tc) (ik iw ir : Int32) (ih : Hc) (it : Tc) (p0 : Int32) (wn : Nat) (hw : w = nI wn) (hw0 : wn < 64) : Ctr l yX5_fact cX5_fact 2 (some .int) 1 22 E (wX E a) [.ref (a 0), .int p0] (((w, rds, sd, ad), pg, sn, s0, s1, s2, h, t, (ik, iw, ir), ih, it)) (fun v8 s8 => v8 = some (.int (A_fact wn p0)) ∧ s8 = ((w, rds, sd, ad), pg, sn, s0, s1, s2, h, t, (ik, iw, ir), ih, it)) := by
  refine Ctr.of' (by decide +kernel) (Nat.le_of_ble_eq_true rfl) (fun X P0 hP0 O => ?_)
  refine g_sub [0, 1] (lv' := [(0, .ref (a 0)), (1, .int p0)]) rfl ?_
  refine g_iload_n 0 O dX5_fact_0 rfl 1 rfl ?_
  refine g_callS 1 O (na := 1) (av := [.int p0]) (c_X5_isFact l E _ _ p0) kl_X5_133 ks_X5_isFact ki_X5 kc_X5_isFact (by decide +kernel) rfl (Nat.le_of_ble_eq_true rfl) (Nat.le_of_ble_eq_true rfl) (fun _ h => h) (fun s => s) (fun _ _ _ _ h => h) rfl (Nat.le_of_ble_eq_true rfl) dX5_fact_1 (fun v9 s9 hv9 => ?_)
  obtain ⟨rfl, rfl⟩ := hv9
  refine g_if_eq 4 O 19 dX5_fact_4 (by decide) (fun h4 => ?_) (fun h4 => ?_)
  · -- taken
    refine g_bipush 19 O (v := (-101)) dX5_fact_19 (by decide) ?_
    exact g_iret 21 O dX5_fact_21 (by rw [hP0, A_fact, if_neg (ite_f h4)]; exact ⟨rfl, rfl⟩)
  · -- not taken
    obtain ⟨k, hk0, hk, hkc⟩ := rng_of (n := 6) (by decide) (ite_t h4)
    refine g_aload_n 7 O dX5_fact_7 rfl 0 rfl ?_
    refine g_get 8 O (v := .int w) inX5 0 rfl rfl 8 (by decide) kf_X5_124 rfl dX5_fact_8 ?_
    refine g_i2l 11 O dX5_fact_11 ?_
    refine g_iload_n 12 O dX5_fact_12 rfl 1 rfl ?_
    refine g_callS 13 O (na := 2) (av := [.long w.toInt64, .int p0]) (c_X5_bitOf l E _ _ w.toInt64 p0) kl_X5_117 ks_X5_bitOf ki_X5 kc_X5_bitOf (by decide +kernel) rfl (Nat.le_of_ble_eq_true rfl) (Nat.le_of_ble_eq_true rfl) (fun _ h => h) (fun s => s) (fun _ _ _ _ h => h) rfl (Nat.le_of_ble_eq_true rfl) dX5_fact_13 (fun v9 s9 hv9 => ?_)
    obtain ⟨rfl, rfl⟩ := hv9
    refine g_goto 16 O 21 dX5_fact_16 (by decide) ?_
    refine g_si (nI (bitN wn k)) (by rw [hw, hk]; exact bitN_ok wn hw0 k hk0) ?_
    exact g_iret 21 O dX5_fact_21 (by rw [hP0, A_fact, if_pos (ite_t h4), hkc]; exact ⟨rfl, rfl⟩)

set_option maxRecDepth 100000 in
set_option maxHeartbeats 4000000 in
theorem c_X5_about (l : Launch) (E : Ev) (a : Nat → Nat) (w rds sd ad : Int32) (pg : Pc) (sn : Nat → Int32) (s0 s1 s2 : Sc) (h : Hc) (t : Tc) (ik iw ir : Int32) (ih : Hc) (it : Tc) (p0 p1 : Int32) (z : Nat → Nat) (y : Sy) (hs : SyA s0 z y) (hr : Hr) (hh : HrW h hr) (wn : Nat) (hw : w = nI wn) (hw0 : wn < 64) : Ctr l yX5_about cX5_about 3 (some .int) 3 67 E (wX E a) [.ref (a 0), .int p0, .int p1] (((w, rds, sd, ad), pg, sn, s0, s1, s2, h, t, (ik, iw, ir), ih, it)) (fun v8 s8 => v8 = some (.int (A_about z y hr wn p0 p1)) ∧ s8 = ((w, rds, sd, ad), pg, sn, s0, s1, s2, h, t, (ik, iw, ir), ih, it)) := by
  refine Ctr.of' (by decide +kernel) (Nat.le_of_ble_eq_true rfl) (fun X P0 hP0 O => ?_)
  refine g_sub [0, 1, 2] (lv' := [(0, .ref (a 0)), (1, .int p0), (2, .int p1)]) rfl ?_
  refine g_aload_n 0 O dX5_about_0 rfl 0 rfl ?_
  refine g_get 1 O (v := .ref (a 25)) inX5 0 rfl rfl 5 (by decide) kf_X5_36 rfl dX5_about_1 ?_
  refine g_iload_n 4 O dX5_about_4 rfl 1 rfl ?_
  refine g_callV 5 O (na := 1) (av := [.int p0]) (c_X0_has l E (sh a 25) (r_h E a (w, rds, sd, ad) pg sn s0 s1 s2 t (ik, iw, ir) ih it) h.1 h.2.1 h.2.2.1 h.2.2.2.1 h.2.2.2.2 p0 hr.1 hh.1 hh.2.1) kl_X5_153 km_X0_has kv_X0_has ki_X0 kc_X0_has (by decide +kernel) rfl (Nat.le_of_ble_eq_true rfl) (Nat.le_of_ble_eq_true rfl) (fun H9 h9 => to_h E a (w, rds, sd, ad) pg sn s0 s1 s2 h t (ik, iw, ir) ih it H9 h9) 0 rfl rfl (fun _ => ((w, rds, sd, ad), pg, sn, s0, s1, s2, h, t, (ik, iw, ir), ih, it)) (fun _ _ H9 hp h9 => by obtain ⟨-, rfl⟩ := hp; exact of_h E a (w, rds, sd, ad) pg sn s0 s1 s2 t (ik, iw, ir) ih it _ H9 h9) rfl (Nat.le_of_ble_eq_true rfl) dX5_about_5 (fun v9 s9 hv9 => ?_)
  obtain ⟨rfl, rfl⟩ := hv9
  refine g_si (if okH hr p0 then 1 else 0) (by rw [hh.1]) ?_
  refine g_if_ne 8 O 14 dX5_about_8 (by decide) (fun h8 => ?_) (fun h8 => ?_)
  · -- taken
    have hh4 := hh.2.1
    obtain ⟨p, hp0, hp, hpc⟩ := rng_of (by omega) (ite_t h8)
    refine g_iload_n 14 O dX5_about_14 rfl 2 rfl ?_
    rcases sw5 p1 with c0 | c0 | c0 | c0 | c0 | c0 | c0
    ·
      refine g_si 0 (c0) ?_
      refine g_tabIn 15 O 52 dX5_about_15 (by decide) (by decide) rfl (by decide) ?_
      refine g_aload_n 52 O dX5_about_52 rfl 0 rfl ?_
      refine g_get 53 O (v := .ref (a 25)) inX5 0 rfl rfl 5 (by decide) kf_X5_36 rfl dX5_about_53 ?_
      refine g_iload_n 56 O dX5_about_56 rfl 1 rfl ?_
      refine g_callV 57 O (na := 1) (av := [.int p0]) (c_X0_kindOf l E (sh a 25) (r_h E a (w, rds, sd, ad) pg sn s0 s1 s2 t (ik, iw, ir) ih it) h.1 h.2.1 h.2.2.1 h.2.2.2.1 h.2.2.2.2 p0 hr.1 p hh.1 hh.2.1 hp hp0) kl_X5_156 km_X0_kindOf kv_X0_kindOf ki_X0 kc_X0_kindOf (by decide +kernel) rfl (Nat.le_of_ble_eq_true rfl) (Nat.le_of_ble_eq_true rfl) (fun H9 h9 => to_h E a (w, rds, sd, ad) pg sn s0 s1 s2 h t (ik, iw, ir) ih it H9 h9) 0 rfl rfl (fun _ => ((w, rds, sd, ad), pg, sn, s0, s1, s2, h, t, (ik, iw, ir), ih, it)) (fun _ _ H9 hp h9 => by obtain ⟨-, rfl⟩ := hp; exact of_h E a (w, rds, sd, ad) pg sn s0 s1 s2 t (ik, iw, ir) ih it _ H9 h9) rfl (Nat.le_of_ble_eq_true rfl) dX5_about_57 (fun v9 s9 hv9 => ?_)
      obtain ⟨rfl, rfl⟩ := hv9
      refine g_si (nI (hr.2.1 p)) ((hh.2.2 p hp0).1.1) ?_
      exact g_iret 60 O dX5_about_60 (by rw [hP0, A_about, if_pos (ite_t h8), if_pos (by rw [c0]; decide), hpc, c0]; exact ⟨rfl, rfl⟩)
    ·
      refine g_si 1 (c0) ?_
      refine g_tabIn 15 O 61 dX5_about_15 (by decide) (by decide) rfl (by decide) ?_
      refine g_aload_n 61 O dX5_about_61 rfl 0 rfl ?_
      refine g_get 62 O (v := .ref (a 25)) inX5 0 rfl rfl 5 (by decide) kf_X5_36 rfl dX5_about_62 ?_
      refine g_iload_n 65 O dX5_about_65 rfl 1 rfl ?_
      refine g_callV 66 O (na := 1) (av := [.int p0]) (c_X0_factOf l E (sh a 25) (r_h E a (w, rds, sd, ad) pg sn s0 s1 s2 t (ik, iw, ir) ih it) h.1 h.2.1 h.2.2.1 h.2.2.2.1 h.2.2.2.2 p0 hr.1 p hh.1 hh.2.1 hp hp0) kl_X5_159 km_X0_factOf kv_X0_factOf ki_X0 kc_X0_factOf (by decide +kernel) rfl (Nat.le_of_ble_eq_true rfl) (Nat.le_of_ble_eq_true rfl) (fun H9 h9 => to_h E a (w, rds, sd, ad) pg sn s0 s1 s2 h t (ik, iw, ir) ih it H9 h9) 0 rfl rfl (fun _ => ((w, rds, sd, ad), pg, sn, s0, s1, s2, h, t, (ik, iw, ir), ih, it)) (fun _ _ H9 hp h9 => by obtain ⟨-, rfl⟩ := hp; exact of_h E a (w, rds, sd, ad) pg sn s0 s1 s2 t (ik, iw, ir) ih it _ H9 h9) rfl (Nat.le_of_ble_eq_true rfl) dX5_about_66 (fun v9 s9 hv9 => ?_)
      obtain ⟨rfl, rfl⟩ := hv9
      refine g_si (nI (hr.2.2.1 p)) ((hh.2.2 p hp0).2.1.1) ?_
      exact g_iret 69 O dX5_about_69 (by rw [hP0, A_about, if_pos (ite_t h8), if_pos (by rw [c0]; decide), hpc, c0]; exact ⟨rfl, rfl⟩)
    ·
      refine g_si 2 (c0) ?_
      refine g_tabIn 15 O 70 dX5_about_15 (by decide) (by decide) rfl (by decide) ?_
      refine g_aload_n 70 O dX5_about_70 rfl 0 rfl ?_
      refine g_get 71 O (v := .ref (a 25)) inX5 0 rfl rfl 5 (by decide) kf_X5_36 rfl dX5_about_71 ?_
      refine g_iload_n 74 O dX5_about_74 rfl 1 rfl ?_
      refine g_callV 75 O (na := 1) (av := [.int p0]) (c_X0_valueOf l E (sh a 25) (r_h E a (w, rds, sd, ad) pg sn s0 s1 s2 t (ik, iw, ir) ih it) h.1 h.2.1 h.2.2.1 h.2.2.2.1 h.2.2.2.2 p0 hr.1 p hh.1 hh.2.1 hp hp0) kl_X5_162 km_X0_valueOf kv_X0_valueOf ki_X0 kc_X0_valueOf (by decide +kernel) rfl (Nat.le_of_ble_eq_true rfl) (Nat.le_of_ble_eq_true rfl) (fun H9 h9 => to_h E a (w, rds, sd, ad) pg sn s0 s1 s2 h t (ik, iw, ir) ih it H9 h9) 0 rfl rfl (fun _ => ((w, rds, sd, ad), pg, sn, s0, s1, s2, h, t, (ik, iw, ir), ih, it)) (fun _ _ H9 hp h9 => by obtain ⟨-, rfl⟩ := hp; exact of_h E a (w, rds, sd, ad) pg sn s0 s1 s2 t (ik, iw, ir) ih it _ H9 h9) rfl (Nat.le_of_ble_eq_true rfl) dX5_about_75 (fun v9 s9 hv9 => ?_)
      obtain ⟨rfl, rfl⟩ := hv9
      refine g_si (nI (hr.2.2.2.1 p)) ((hh.2.2 p hp0).2.2.1.1) ?_
      exact g_iret 78 O dX5_about_78 (by rw [hP0, A_about, if_pos (ite_t h8), if_pos (by rw [c0]; decide), hpc, c0]; exact ⟨rfl, rfl⟩)
    ·
      refine g_si 3 (c0) ?_
      refine g_tabIn 15 O 79 dX5_about_15 (by decide) (by decide) rfl (by decide) ?_
      refine g_aload_n 79 O dX5_about_79 rfl 0 rfl ?_
      refine g_iload_n 80 O dX5_about_80 rfl 1 rfl ?_
      refine g_callV 81 O (na := 1) (av := [.int p0]) (c_X5_taken l E a w rds sd ad pg sn s0 s1 s2 h t ik iw ir ih it p0 z y hs hr hh p hp hp0) kl_X5_165 km_X5_taken kv_X5_taken ki_X5 kc_X5_taken (by decide +kernel) rfl (Nat.le_of_ble_eq_true rfl) (Nat.le_of_ble_eq_true rfl) (fun _ h => h) 0 rfl rfl (fun s => s) (fun _ _ _ _ h => h) rfl (Nat.le_of_ble_eq_true rfl) dX5_about_81 (fun v9 s9 hv9 => ?_)
      obtain ⟨rfl, rfl⟩ := hv9
      exact g_iret 84 O dX5_about_84 (by rw [hP0, A_about, if_pos (ite_t h8), if_pos (by rw [c0]; decide), hpc, c0]; exact ⟨rfl, rfl⟩)
    ·
      refine g_si 4 (c0) ?_
      refine g_tabIn 15 O 85 dX5_about_15 (by decide) (by decide) rfl (by decide) ?_
      refine g_aload_n 85 O dX5_about_85 rfl 0 rfl ?_
      refine g_iload_n 86 O dX5_about_86 rfl 1 rfl ?_
      refine g_callV 87 O (na := 1) (av := [.int p0]) (c_X5_actsNow l E a w rds sd ad pg sn s0 s1 s2 h t ik iw ir ih it p0 z y hs hr hh p hp hp0 wn hw hw0) kl_X5_168 km_X5_actsNow kv_X5_actsNow ki_X5 kc_X5_actsNow (by decide +kernel) rfl (Nat.le_of_ble_eq_true rfl) (Nat.le_of_ble_eq_true rfl) (fun _ h => h) 0 rfl rfl (fun s => s) (fun _ _ _ _ h => h) rfl (Nat.le_of_ble_eq_true rfl) dX5_about_87 (fun v9 s9 hv9 => ?_)
      obtain ⟨rfl, rfl⟩ := hv9
      refine g_if_eq 90 O 97 dX5_about_90 (by decide) (fun h90 => ?_) (fun h90 => ?_)
      · -- taken
        refine g_iconst 97 O (v := 0) dX5_about_97 (by decide) ?_
        exact g_iret 98 O dX5_about_98 (by rw [hP0, A_about, if_pos (ite_t h8), if_pos (by rw [c0]; decide), hpc, c0, show aN z y hr wn p 4 = bi (decide (¬ y.1 = 0) && ac (hr.2.1 p) (TR z y (tk z y (hr.2.1 p))) wn) from rfl, bi_f h90]; exact ⟨rfl, rfl⟩)
      · -- not taken
        refine g_iconst 93 O (v := 1) dX5_about_93 (by decide) ?_
        refine g_goto 94 O 98 dX5_about_94 (by decide) ?_
        exact g_iret 98 O dX5_about_98 (by rw [hP0, A_about, if_pos (ite_t h8), if_pos (by rw [c0]; decide), hpc, c0, show aN z y hr wn p 4 = bi (decide (¬ y.1 = 0) && ac (hr.2.1 p) (TR z y (tk z y (hr.2.1 p))) wn) from rfl, bi_t h90]; exact ⟨rfl, rfl⟩)
    ·
      refine g_si 5 (c0) ?_
      refine g_tabIn 15 O 99 dX5_about_15 (by decide) (by decide) rfl (by decide) ?_
      refine g_aload_n 99 O dX5_about_99 rfl 0 rfl ?_
      refine g_get 100 O (v := .ref (a 25)) inX5 0 rfl rfl 5 (by decide) kf_X5_36 rfl dX5_about_100 ?_
      refine g_iload_n 103 O dX5_about_103 rfl 1 rfl ?_
      refine g_callV 104 O (na := 1) (av := [.int p0]) (c_X0_changesOf l E (sh a 25) (r_h E a (w, rds, sd, ad) pg sn s0 s1 s2 t (ik, iw, ir) ih it) h.1 h.2.1 h.2.2.1 h.2.2.2.1 h.2.2.2.2 p0 hr.1 p hh.1 hh.2.1 hp hp0) kl_X5_171 km_X0_changesOf kv_X0_changesOf ki_X0 kc_X0_changesOf (by decide +kernel) rfl (Nat.le_of_ble_eq_true rfl) (Nat.le_of_ble_eq_true rfl) (fun H9 h9 => to_h E a (w, rds, sd, ad) pg sn s0 s1 s2 h t (ik, iw, ir) ih it H9 h9) 0 rfl rfl (fun _ => ((w, rds, sd, ad), pg, sn, s0, s1, s2, h, t, (ik, iw, ir), ih, it)) (fun _ _ H9 hp h9 => by obtain ⟨-, rfl⟩ := hp; exact of_h E a (w, rds, sd, ad) pg sn s0 s1 s2 t (ik, iw, ir) ih it _ H9 h9) rfl (Nat.le_of_ble_eq_true rfl) dX5_about_104 (fun v9 s9 hv9 => ?_)
      obtain ⟨rfl, rfl⟩ := hv9
      refine g_si (hr.2.2.2.2 p) ((hh.2.2 p hp0).2.2.2) ?_
      exact g_iret 107 O dX5_about_107 (by rw [hP0, A_about, if_pos (ite_t h8), if_pos (by rw [c0]; decide), hpc, c0]; exact ⟨rfl, rfl⟩)
    ·
      refine g_tabOut 15 O 108 dX5_about_15 (c0) (by decide) ?_
      refine g_bipush 108 O (v := (-102)) dX5_about_108 (by decide) ?_
      exact g_iret 110 O dX5_about_110 (by rw [hP0, A_about, if_pos (ite_t h8), if_neg (nle_of c0)]; exact ⟨rfl, rfl⟩)
  · -- not taken
    refine g_bipush 11 O (v := (-101)) dX5_about_11 (by decide) ?_
    exact g_iret 13 O dX5_about_13 (by rw [hP0, A_about, if_neg (ite_f h8)]; exact ⟨rfl, rfl⟩)

set_option maxRecDepth 100000 in
set_option maxHeartbeats 4000000 in
theorem c_X5_as (l : Launch) (E : Ev) (a : Nat → Nat) (w rds sd ad : Int32) (pg : Pc) (sn : Nat → Int32) (s0 s1 s2 : Sc) (h : Hc) (t : Tc) (ik iw ir : Int32) (ih : Hc) (it : Tc) (p0 p1 : Int32) (hr : Hr) (hh : HrW h hr) : Ctr l yX5_as cX5_as 3 (some .int) 1 21 E (wX E a) [.ref (a 0), .int p0, .int p1] (((w, rds, sd, ad), pg, sn, s0, s1, s2, h, t, (ik, iw, ir), ih, it)) (fun v8 s8 => v8 = some (.int (A_as hr p0 p1)) ∧ s8 = ((w, rds, sd, ad), pg, sn, s0, s1, s2, h, t, (ik, iw, ir), ih, it)) := by
  refine Ctr.of' (by decide +kernel) (Nat.le_of_ble_eq_true rfl) (fun X P0 hP0 O => ?_)
  refine g_sub [0, 1, 2] (lv' := [(0, .ref (a 0)), (1, .int p0), (2, .int p1)]) rfl ?_
  refine g_aload_n 0 O dX5_as_0 rfl 0 rfl ?_
  refine g_get 1 O (v := .ref (a 25)) inX5 0 rfl rfl 5 (by decide) kf_X5_36 rfl dX5_as_1 ?_
  refine g_iload_n 4 O dX5_as_4 rfl 1 rfl ?_
  refine g_callV 5 O (na := 1) (av := [.int p0]) (c_X0_has l E (sh a 25) (r_h E a (w, rds, sd, ad) pg sn s0 s1 s2 t (ik, iw, ir) ih it) h.1 h.2.1 h.2.2.1 h.2.2.2.1 h.2.2.2.2 p0 hr.1 hh.1 hh.2.1) kl_X5_153 km_X0_has kv_X0_has ki_X0 kc_X0_has (by decide +kernel) rfl (Nat.le_of_ble_eq_true rfl) (Nat.le_of_ble_eq_true rfl) (fun H9 h9 => to_h E a (w, rds, sd, ad) pg sn s0 s1 s2 h t (ik, iw, ir) ih it H9 h9) 0 rfl rfl (fun _ => ((w, rds, sd, ad), pg, sn, s0, s1, s2, h, t, (ik, iw, ir), ih, it)) (fun _ _ H9 hp h9 => by obtain ⟨-, rfl⟩ := hp; exact of_h E a (w, rds, sd, ad) pg sn s0 s1 s2 t (ik, iw, ir) ih it _ H9 h9) rfl (Nat.le_of_ble_eq_true rfl) dX5_as_5 (fun v9 s9 hv9 => ?_)
  obtain ⟨rfl, rfl⟩ := hv9
  refine g_si (if okH hr p0 then 1 else 0) (by rw [hh.1]) ?_
  refine g_if_ne 8 O 14 dX5_as_8 (by decide) (fun h8 => ?_) (fun h8 => ?_)
  · -- taken
    have hh4 := hh.2.1
    obtain ⟨p, hp0, hp, hpc⟩ := rng_of (by omega) (ite_t h8)
    refine g_iload_n 14 O dX5_as_14 rfl 2 rfl ?_
    refine g_callS 15 O (na := 1) (av := [.int p1]) (c_X5_isKind l E _ _ p1) kl_X5_143 ks_X5_isKind ki_X5 kc_X5_isKind (by decide +kernel) rfl (Nat.le_of_ble_eq_true rfl) (Nat.le_of_ble_eq_true rfl) (fun _ h => h) (fun s => s) (fun _ _ _ _ h => h) rfl (Nat.le_of_ble_eq_true rfl) dX5_as_15 (fun v9 s9 hv9 => ?_)
    obtain ⟨rfl, rfl⟩ := hv9
    refine g_if_ne 18 O 24 dX5_as_18 (by decide) (fun h18 => ?_) (fun h18 => ?_)
    · -- taken
      refine g_aload_n 24 O dX5_as_24 rfl 0 rfl ?_
      refine g_get 25 O (v := .ref (a 25)) inX5 0 rfl rfl 5 (by decide) kf_X5_36 rfl dX5_as_25 ?_
      refine g_iload_n 28 O dX5_as_28 rfl 1 rfl ?_
      refine g_callV 29 O (na := 1) (av := [.int p0]) (c_X0_kindOf l E (sh a 25) (r_h E a (w, rds, sd, ad) pg sn s0 s1 s2 t (ik, iw, ir) ih it) h.1 h.2.1 h.2.2.1 h.2.2.2.1 h.2.2.2.2 p0 hr.1 p hh.1 hh.2.1 hp hp0) kl_X5_156 km_X0_kindOf kv_X0_kindOf ki_X0 kc_X0_kindOf (by decide +kernel) rfl (Nat.le_of_ble_eq_true rfl) (Nat.le_of_ble_eq_true rfl) (fun H9 h9 => to_h E a (w, rds, sd, ad) pg sn s0 s1 s2 h t (ik, iw, ir) ih it H9 h9) 0 rfl rfl (fun _ => ((w, rds, sd, ad), pg, sn, s0, s1, s2, h, t, (ik, iw, ir), ih, it)) (fun _ _ H9 hp h9 => by obtain ⟨-, rfl⟩ := hp; exact of_h E a (w, rds, sd, ad) pg sn s0 s1 s2 t (ik, iw, ir) ih it _ H9 h9) rfl (Nat.le_of_ble_eq_true rfl) dX5_as_29 (fun v9 s9 hv9 => ?_)
      obtain ⟨rfl, rfl⟩ := hv9
      refine g_si (nI (hr.2.1 p)) ((hh.2.2 p hp0).1.1) ?_
      refine g_iload_n 32 O dX5_as_32 rfl 2 rfl ?_
      refine g_callS 33 O (na := 2) (av := [.int (nI (hr.2.1 p)), .int p1]) (c_X5_isOfKind l E _ _ (nI (hr.2.1 p)) p1) kl_X5_174 ks_X5_isOfKind ki_X5 kc_X5_isOfKind (by decide +kernel) rfl (Nat.le_of_ble_eq_true rfl) (Nat.le_of_ble_eq_true rfl) (fun _ h => h) (fun s => s) (fun _ _ _ _ h => h) rfl (Nat.le_of_ble_eq_true rfl) dX5_as_33 (fun v9 s9 hv9 => ?_)
      obtain ⟨rfl, rfl⟩ := hv9
      refine g_if_eq 36 O 43 dX5_as_36 (by decide) (fun h36 => ?_) (fun h36 => ?_)
      · -- taken
        refine g_iconst 43 O (v := (-1)) dX5_as_43 (by decide) ?_
        exact g_iret 44 O dX5_as_44 (by rw [hP0, A_as, if_pos (ite_t h8), if_pos (ite_t h18), hpc, if_neg (ite_f h36)]; exact ⟨rfl, rfl⟩)
      · -- not taken
        refine g_iload_n 39 O dX5_as_39 rfl 1 rfl ?_
        refine g_goto 40 O 44 dX5_as_40 (by decide) ?_
        exact g_iret 44 O dX5_as_44 (by rw [hP0, A_as, if_pos (ite_t h8), if_pos (ite_t h18), hpc, if_pos (ite_t h36)]; exact ⟨rfl, rfl⟩)
    · -- not taken
      refine g_bipush 21 O (v := (-102)) dX5_as_21 (by decide) ?_
      exact g_iret 23 O dX5_as_23 (by rw [hP0, A_as, if_pos (ite_t h8), if_neg (ite_f h18)]; exact ⟨rfl, rfl⟩)
  · -- not taken
    refine g_bipush 11 O (v := (-101)) dX5_as_11 (by decide) ?_
    exact g_iret 13 O dX5_as_13 (by rw [hP0, A_as, if_neg (ite_f h8)]; exact ⟨rfl, rfl⟩)
