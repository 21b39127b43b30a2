theorem sp0_l {c : Int32} {n : Nat} (h : 97 ≤ c ∧ c ≤ 102) : sp (0, n) c = some (2, n + 1) := by
  have h1 : ¬ c = 110 := fun e => by rw [e] at h; exact absurd h.2 (by decide)
  simp [sp, h1, h]
theorem sp0_n {c : Int32} {n : Nat} (h : c = 110) : sp (0, n) c = some (1, n) := by simp [sp, h]
theorem sp0_x {c : Int32} {n : Nat} (h : ¬ (97 ≤ c ∧ c ≤ 102)) (h2 : ¬ c = 110) : sp (0, n) c = none := by simp only [sp, h, h2]; simp
theorem sp1_l {c : Int32} {n : Nat} (h : 97 ≤ c ∧ c ≤ 102) : sp (1, n) c = some (2, n + 1) := by simp [sp, h]
theorem sp1_x {c : Int32} {n : Nat} (h : ¬ (97 ≤ c ∧ c ≤ 102)) : sp (1, n) c = none := by simp only [sp, h]; simp
theorem sp2_j {c : Int32} {n : Nat} (h : c = 38 ∨ c = 43) (h2 : n < 4) : sp (2, n) c = some (0, n) := by simp only [sp, h, h2]; simp
theorem sp2_x {c : Int32} {n : Nat} (h : ¬ (c = 38 ∨ c = 43)) : sp (2, n) c = none := by simp only [sp, h]; simp
theorem sp2_y {c : Int32} {n : Nat} (h : 4 ≤ n) : sp (2, n) c = none := by
  have h2 : ¬ n < 4 := by omega
  simp only [sp, h2]; simp
theorem rs_st {cs : Nat → Int32} : ∀ {k : Nat} {s : Nat × Nat}, rs cs k = some s → s.1 ≤ 2 ∧ s.2 ≤ 4 ∧ (s.1 ≠ 2 → s.2 < 4)
  | 0, s, h => by rw [rs] at h; cases h; decide
  | k + 1, s, h => by
    rw [rs] at h
    cases e : rs cs k with
    | none => rw [e] at h; cases h
    | some s0 =>
      have ih := rs_st e
      rw [e] at h
      have h : sp s0 (cs k) = some s := h
      unfold sp at h
      split at h
      · split at h
        · rename_i h2; cases h; exact ⟨Nat.zero_le _, by omega, fun _ => h2.2⟩
        · cases h
      · split at h
        · cases h; exact ⟨Nat.le_of_ble_eq_true rfl, by omega, fun _ => by omega⟩
        · split at h
          · cases h; exact ⟨Nat.le_refl _, by omega, fun q => absurd rfl q⟩
          · cases h

set_option maxRecDepth 100000 in
set_option maxHeartbeats 4000000 in
theorem c_X2_write (l : Launch) (E : Ev) (a : Nat → Nat) (R : va_W) (le : Int32) (cs : Nat → Int32) (p0 : Int32) (N : Nat) (hle : le = nI N) (hN : N ≤ 14) : Ctr l yX2_write cX2_write 2 (some .boolean) 0 0 E (fun s => wP E a s ++ R) [.ref (a 0), .int p0] ((le, cs)) (fun v s => (14 ≤ N ∧ v = some (.int 0) ∧ s = (le, cs)) ∨ (N < 14 ∧ v = some (.int 1) ∧ s = (nI (N + 1), upd cs N p0))) := by
  refine Ctr.of' (by decide +kernel) (Nat.le_of_ble_eq_true rfl) (fun X P0 hP0 O => ?_)
  refine g_sub [0, 1] (lv' := [(0, .ref (a 0)), (1, .int p0)]) rfl ?_
  refine g_aload_n 0 O dX2_write_0 rfl 0 rfl ?_
  refine g_get 1 O (v := .int le) inX2 0 rfl rfl 1 (by decide) kf_X2_15 rfl dX2_write_1 ?_
  refine g_if_lt 4 O 19 dX2_write_4 (by decide) (fun h4 => False.elim (absurd h4 (by rw [hle]; exact nI_pos (by omega)))) (fun h4 => ?_)
  refine g_aload_n 7 O dX2_write_7 rfl 0 rfl ?_
  refine g_get 8 O (v := .int le) inX2 0 rfl rfl 1 (by decide) kf_X2_15 rfl dX2_write_8 ?_
  refine g_aload_n 11 O dX2_write_11 rfl 0 rfl ?_
  refine g_get 12 O (v := .ref (a 1)) inX2 0 rfl rfl 0 (by decide) kf_X2_9 rfl dX2_write_12 ?_
  refine g_alen 15 O (v := 14) 1 0 rfl rfl rfl dX2_write_15 ?_
  refine g_icmp_lt 16 O 21 dX2_write_16 (by decide) (fun h16 => ?_) (fun h16 => ?_)
  · -- taken
    have hlt : N < 14 := by rw [hle] at h16; exact (nI_ltI (b := 14) (by omega) (by decide)).mp h16
    refine g_aload_n 21 O dX2_write_21 rfl 0 rfl ?_
    refine g_get 22 O (v := .ref (a 1)) inX2 0 rfl rfl 0 (by decide) kf_X2_9 rfl dX2_write_22 ?_
    refine g_aload_n 25 O dX2_write_25 rfl 0 rfl ?_
    refine g_get 26 O (v := .int le) inX2 0 rfl rfl 1 (by decide) kf_X2_15 rfl dX2_write_26 ?_
    refine g_iload_n 29 O dX2_write_29 rfl 1 rfl ?_
    refine g_iast 30 O ((le, upd cs N p0)) 1 N rfl (hle) (hlt) (by decide) rfl dX2_write_30 ?_
    refine g_aload_n 31 O dX2_write_31 rfl 0 rfl ?_
    refine g_dup 32 O dX2_write_32 rfl ?_
    refine g_get 33 O (v := .int le) inX2 0 rfl rfl 1 (by decide) kf_X2_15 rfl dX2_write_33 ?_
    refine g_iconst 36 O (v := 1) dX2_write_36 (by decide) ?_
    refine g_iadd 37 O dX2_write_37 ?_
    refine g_si (nI (N + 1)) (by rw [hle]; exact nI_1 N) ?_
    refine g_put 38 O inX2 tyX2_ok nmX2 ((nI (N + 1), upd cs N p0)) 0 rfl rfl 1 (by decide) kf_X2_15 rfl (rfl) (rfl) (Nat.le_of_ble_eq_true rfl) rfl dX2_write_38 ?_
    refine g_iconst 41 O (v := 1) dX2_write_41 (by decide) ?_
    exact g_zret (rfl) 42 O dX2_write_42 (by rw [hP0]; exact Or.inr ⟨hlt, rfl, rfl⟩)
  · -- not taken
    have hge : 14 ≤ N := by rw [hle] at h16; exact Nat.not_lt.mp (fun q => h16 (nI_lt (b := 14) q (by decide)))
    refine g_iconst 19 O (v := 0) dX2_write_19 (by decide) ?_
    exact g_zret (rfl) 20 O dX2_write_20 (by rw [hP0]; exact Or.inl ⟨hge, rfl, rfl⟩)

set_option maxRecDepth 100000 in
set_option maxHeartbeats 4000000 in
theorem c_X2_clear (l : Launch) (E : Ev) (a : Nat → Nat) (R : va_W) (le : Int32) (cs : Nat → Int32)  : Ctr l yX2_clear cX2_clear 2 (some .int) 0 0 E (fun s => wP E a s ++ R) [.ref (a 0)] ((le, cs)) (fun v s => v = some (.int le) ∧ s = (0, cs)) := by
  refine Ctr.of' (by decide +kernel) (Nat.le_of_ble_eq_true rfl) (fun X P0 hP0 O => ?_)
  refine g_sub [0] (lv' := [(0, .ref (a 0))]) rfl ?_
  refine g_aload_n 0 O dX2_clear_0 rfl 0 rfl ?_
  refine g_get 1 O (v := .int le) inX2 0 rfl rfl 1 (by decide) kf_X2_15 rfl dX2_clear_1 ?_
  refine g_istore_n 4 O (lv' := [(1, .int le), (0, .ref (a 0))]) dX2_clear_4 rfl (by decide) rfl ?_
  refine g_aload_n 5 O dX2_clear_5 rfl 1 rfl ?_
  refine g_iconst 6 O (v := 0) dX2_clear_6 (by decide) ?_
  refine g_put 7 O inX2 tyX2_ok nmX2 ((0, cs)) 0 rfl rfl 1 (by decide) kf_X2_15 rfl (rfl) (rfl) (Nat.le_of_ble_eq_true rfl) rfl dX2_clear_7 ?_
  refine g_iload_n 10 O dX2_clear_10 rfl 0 rfl ?_
  exact g_iret 11 O dX2_clear_11 (by rw [hP0]; exact ⟨rfl, rfl⟩)

set_option maxRecDepth 100000 in
set_option maxHeartbeats 4000000 in
theorem c_X2_codeAt_m (l : Launch) (E : Ev) (a : Nat → Nat) (R : va_W) (le : Int32) (cs : Nat → Int32) (p0 : Int32) (hp : p0 = -1) : Ctr l yX2_codeAt cX2_codeAt 2 (some .int) 0 0 E (fun s => wP E a s ++ R) [.ref (a 0), .int p0] ((le, cs)) (fun v s => v = some (.int (-1)) ∧ s = (le, cs)) := by
  refine Ctr.of' (by decide +kernel) (Nat.le_of_ble_eq_true rfl) (fun X P0 hP0 O => ?_)
  refine g_sub [0, 1] (lv' := [(0, .ref (a 0)), (1, .int p0)]) rfl ?_
  refine g_iload_n 0 O dX2_codeAt_0 rfl 1 rfl ?_
  refine g_if_lt 1 O 30 dX2_codeAt_1 (by decide) (fun h1 => ?_) (fun h1 => False.elim (h1 (by rw [hp]; decide)))
  refine g_iconst 30 O (v := (-1)) dX2_codeAt_30 (by decide) ?_
  exact g_iret 31 O dX2_codeAt_31 (by rw [hP0]; exact ⟨rfl, rfl⟩)

set_option maxRecDepth 100000 in
set_option maxHeartbeats 4000000 in
theorem c_X2_faultAsSaying (l : Launch) (E : Ev) (a : Nat → Nat) (R : va_W) (le : Int32) (cs : Nat → Int32) (N : Nat) (hle : le = nI N) (hN : N ≤ 14) : Ctr l yX2_faultAsSaying cX2_faultAsSaying 6 (some .int) 1 21 E (fun s => wP E a s ++ R) [.ref (a 0)] ((le, cs)) (fun v s => v = some (.int (nI (fsay cs N))) ∧ s = (le, cs)) := by
  refine Ctr.of' (by decide +kernel) (Nat.le_of_ble_eq_true rfl) (fun X P0 hP0 O => ?_)
  refine g_sub [0] (lv' := [(0, .ref (a 0))]) rfl ?_
  refine g_iconst 0 O (v := 0) dX2_faultAsSaying_0 (by decide) ?_
  refine g_istore_n 1 O (lv' := [(1, .int 0), (0, .ref (a 0))]) dX2_faultAsSaying_1 rfl (by decide) rfl ?_
  refine g_iconst 2 O (v := 0) dX2_faultAsSaying_2 (by decide) ?_
  refine g_istore_n 3 O (lv' := [(2, .int 0), (1, .int 0), (0, .ref (a 0))]) dX2_faultAsSaying_3 rfl (by decide) rfl ?_
  refine g_iconst 4 O (v := 1) dX2_faultAsSaying_4 (by decide) ?_
  refine g_istore_n 5 O (lv' := [(3, .int 1), (2, .int 0), (1, .int 0), (0, .ref (a 0))]) dX2_faultAsSaying_5 rfl (by decide) rfl ?_
  refine g_iconst 6 O (v := 0) dX2_faultAsSaying_6 (by decide) ?_
  refine g_istore 7 O (lv' := [(4, .int 0), (3, .int 1), (2, .int 0), (1, .int 0), (0, .ref (a 0))]) dX2_faultAsSaying_7 (by decide) rfl ?_
  refine g_sub [0, 1, 2, 3, 4] (lv' := [(4, .int 0), (3, .int 1), (2, .int 0), (1, .int 0), (0, .ref (a 0))]) rfl ?_
  have L9 : ∀ (fuel : Nat) (k st nw : Nat) (w ng du : Int32) (hk : k ≤ N) (hrs : rs cs k = some (st, nw)) (hw : w = nI nw) (hst : (st = 0 ∧ ng = 0 ∧ du = 1) ∨ (st = 1 ∧ ng = 1 ∧ du = 1) ∨ (st = 2 ∧ ng = 0 ∧ du = 0)), N - k < fuel → G l E (fun s => wP E a s ++ R) P0 X 6 ((le, cs)) 9 [(4, .int (nI k)), (3, .int du), (2, .int ng), (1, .int w), (0, .ref (a 0))] [] := by
    intro fuel
    induction fuel with
    | zero => intro k st nw w ng du hk hrs hw hst hfu; exact absurd hfu (Nat.not_lt_zero _)
    | succ fuel ih9 =>
      intro k st nw w ng du hk hrs hw hst hfu
      have hnw := (rs_st hrs).2.1
      subst hw
      rcases hst with ⟨rfl, rfl, rfl⟩ | ⟨rfl, rfl, rfl⟩ | ⟨rfl, rfl, rfl⟩
      · -- case 0
        refine g_iload 9 O dX2_faultAsSaying_9 0 rfl ?_
        refine g_aload_n 11 O dX2_faultAsSaying_11 rfl 4 rfl ?_
        refine g_get 12 O (v := .int le) inX2 0 rfl rfl 1 (by decide) kf_X2_15 rfl dX2_faultAsSaying_12 ?_
        refine g_icmp_ge 15 O 99 dX2_faultAsSaying_15 (by decide) (fun h15 => ?_) (fun h15 => ?_)
        · -- taken
          have e : k = N := by rw [hle] at h15; have := ge_of_le (by omega) (by omega) h15; omega
          subst e
          refine g_aload_n 99 O dX2_faultAsSaying_99 rfl 4 rfl ?_
          refine g_get 100 O (v := .int le) inX2 0 rfl rfl 1 (by decide) kf_X2_15 rfl dX2_faultAsSaying_100 ?_
          exact g_iret 103 O dX2_faultAsSaying_103 (by rw [hP0, fsay_all hrs]; exact ⟨by rw [hle], rfl⟩)
        · -- not taken
          have hlt : k < N := by rw [hle] at h15; exact lt_of_nge (by omega) h15
          refine g_aload_n 18 O dX2_faultAsSaying_18 rfl 4 rfl ?_
          refine g_iload 19 O dX2_faultAsSaying_19 0 rfl ?_
          refine g_callV 21 O (na := 1) (av := [.int (nI k)]) (c_X2_codeAt l E a R le cs (nI k) N k hle hN rfl hlt) kl_X2_19 km_X2_codeAt kv_X2_codeAt ki_X2 kc_X2_codeAt (by decide +kernel) rfl (Nat.le_of_ble_eq_true rfl) (Nat.le_of_ble_eq_true rfl) (fun _ h => h) 0 rfl rfl (fun s => s) (fun _ _ _ _ h => h) rfl (Nat.le_of_ble_eq_true rfl) dX2_faultAsSaying_21 (fun v9 s9 hv9 => ?_)
          obtain ⟨rfl, rfl⟩ := hv9
          refine g_istore 24 O (lv' := [(5, .int (cs k)), (4, .int (nI k)), (3, .int 1), (2, .int 0), (1, .int (nI nw)), (0, .ref (a 0))]) dX2_faultAsSaying_24 (by decide) rfl ?_
          refine g_iload_n 26 O dX2_faultAsSaying_26 rfl 2 rfl ?_
          refine g_if_eq 27 O 48 dX2_faultAsSaying_27 (by decide) (fun h27 => False.elim (absurd h27 (by decide))) (fun h27 => ?_)
          refine g_iload 30 O dX2_faultAsSaying_30 0 rfl ?_
          refine g_callS 32 O (na := 1) (av := [.int (cs k)]) (c_X2_isWordLetter l E _ _ (cs k)) kl_X2_23 ks_X2_isWordLetter ki_X2 kc_X2_isWordLetter (by decide +kernel) rfl (Nat.le_of_ble_eq_true rfl) (Nat.le_of_ble_eq_true rfl) (fun _ h => h) (fun s => s) (fun _ _ _ _ h => h) rfl (Nat.le_of_ble_eq_true rfl) dX2_faultAsSaying_32 (fun v9 s9 hv9 => ?_)
          obtain ⟨rfl, rfl⟩ := hv9
          refine g_if_eq 35 O 48 dX2_faultAsSaying_35 (by decide) (fun h35 => ?_) (fun h35 => ?_)
          · -- taken
            refine g_iload_n 48 O dX2_faultAsSaying_48 rfl 2 rfl ?_
            refine g_if_eq 49 O 68 dX2_faultAsSaying_49 (by decide) (fun h49 => False.elim (absurd h49 (by decide))) (fun h49 => ?_)
            refine g_iload 52 O dX2_faultAsSaying_52 0 rfl ?_
            refine g_bipush 54 O (v := 110) dX2_faultAsSaying_54 (by decide) ?_
            refine g_icmp_ne 56 O 68 dX2_faultAsSaying_56 (by decide) (fun h56 => ?_) (fun h56 => ?_)
            · -- taken
              refine g_iload_n 68 O dX2_faultAsSaying_68 rfl 2 rfl ?_
              refine g_if_ne 69 O 90 dX2_faultAsSaying_69 (by decide) (fun h69 => ?_) (fun h69 => False.elim (absurd h69 (by decide)))
              refine g_iload 90 O dX2_faultAsSaying_90 1 rfl ?_
              exact g_iret 92 O dX2_faultAsSaying_92 (by rw [hP0, fsay_stop hrs (sp0_x (ite_f h35) h56) hlt]; exact ⟨rfl, rfl⟩)
            · -- not taken
              refine g_iload_n 59 O dX2_faultAsSaying_59 rfl 3 rfl ?_
              refine g_if_ne 60 O 68 dX2_faultAsSaying_60 (by decide) (fun h60 => False.elim (absurd h60 (by decide))) (fun h60 => ?_)
              refine g_iconst 63 O (v := 1) dX2_faultAsSaying_63 (by decide) ?_
              refine g_istore_n 64 O (lv' := [(2, .int 1), (5, .int (cs k)), (4, .int (nI k)), (3, .int 1), (1, .int (nI nw)), (0, .ref (a 0))]) dX2_faultAsSaying_64 rfl (by decide) rfl ?_
              refine g_goto 65 O 93 dX2_faultAsSaying_65 (by decide) ?_
              refine g_iinc 93 O (v := nI (k + 1)) (q := 2) (lv' := [(4, .int (nI (k + 1))), (2, .int 1), (5, .int (cs k)), (3, .int 1), (1, .int (nI nw)), (0, .ref (a 0))]) dX2_faultAsSaying_93 rfl (nI_1 k) (by decide) rfl ?_
              refine g_goto 96 O 9 dX2_faultAsSaying_96 (by decide) ?_
              refine g_sub [0, 3, 1, 4, 5] (lv' := [(4, .int (nI (k + 1))), (3, .int 1), (2, .int 1), (1, .int (nI nw)), (0, .ref (a 0))]) rfl ?_
              exact ih9 (k + 1) 1 nw (nI nw) 1 1 (by omega) (rs_go hrs (sp0_n h56)) rfl (Or.inr (Or.inl ⟨rfl, rfl, rfl⟩)) (by omega)
          · -- not taken
            refine g_iinc 38 O (v := nI (nw + 1)) (q := 4) (lv' := [(1, .int (nI (nw + 1))), (5, .int (cs k)), (4, .int (nI k)), (3, .int 1), (2, .int 0), (0, .ref (a 0))]) dX2_faultAsSaying_38 rfl (nI_1 nw) (by decide) rfl ?_
            refine g_iconst 41 O (v := 0) dX2_faultAsSaying_41 (by decide) ?_
            refine g_istore_n 42 O (lv' := [(2, .int 0), (1, .int (nI (nw + 1))), (5, .int (cs k)), (4, .int (nI k)), (3, .int 1), (0, .ref (a 0))]) dX2_faultAsSaying_42 rfl (by decide) rfl ?_
            refine g_iconst 43 O (v := 0) dX2_faultAsSaying_43 (by decide) ?_
            refine g_istore_n 44 O (lv' := [(3, .int 0), (2, .int 0), (1, .int (nI (nw + 1))), (5, .int (cs k)), (4, .int (nI k)), (0, .ref (a 0))]) dX2_faultAsSaying_44 rfl (by decide) rfl ?_
            refine g_goto 45 O 93 dX2_faultAsSaying_45 (by decide) ?_
            refine g_iinc 93 O (v := nI (k + 1)) (q := 4) (lv' := [(4, .int (nI (k + 1))), (3, .int 0), (2, .int 0), (1, .int (nI (nw + 1))), (5, .int (cs k)), (0, .ref (a 0))]) dX2_faultAsSaying_93 rfl (nI_1 k) (by decide) rfl ?_
            refine g_goto 96 O 9 dX2_faultAsSaying_96 (by decide) ?_
            refine g_sub [0, 1, 2, 3, 5] (lv' := [(4, .int (nI (k + 1))), (3, .int 0), (2, .int 0), (1, .int (nI (nw + 1))), (0, .ref (a 0))]) rfl ?_
            exact ih9 (k + 1) 2 (nw + 1) (nI (nw + 1)) 0 0 (by omega) (rs_go hrs (sp0_l (ite_t h35))) rfl (Or.inr (Or.inr ⟨rfl, rfl, rfl⟩)) (by omega)
      · -- case 1
        refine g_iload 9 O dX2_faultAsSaying_9 0 rfl ?_
        refine g_aload_n 11 O dX2_faultAsSaying_11 rfl 4 rfl ?_
        refine g_get 12 O (v := .int le) inX2 0 rfl rfl 1 (by decide) kf_X2_15 rfl dX2_faultAsSaying_12 ?_
        refine g_icmp_ge 15 O 99 dX2_faultAsSaying_15 (by decide) (fun h15 => ?_) (fun h15 => ?_)
        · -- taken
          have e : k = N := by rw [hle] at h15; have := ge_of_le (by omega) (by omega) h15; omega
          subst e
          refine g_aload_n 99 O dX2_faultAsSaying_99 rfl 4 rfl ?_
          refine g_get 100 O (v := .int le) inX2 0 rfl rfl 1 (by decide) kf_X2_15 rfl dX2_faultAsSaying_100 ?_
          exact g_iret 103 O dX2_faultAsSaying_103 (by rw [hP0, fsay_all hrs]; exact ⟨by rw [hle], rfl⟩)
        · -- not taken
          have hlt : k < N := by rw [hle] at h15; exact lt_of_nge (by omega) h15
          refine g_aload_n 18 O dX2_faultAsSaying_18 rfl 4 rfl ?_
          refine g_iload 19 O dX2_faultAsSaying_19 0 rfl ?_
          refine g_callV 21 O (na := 1) (av := [.int (nI k)]) (c_X2_codeAt l E a R le cs (nI k) N k hle hN rfl hlt) kl_X2_19 km_X2_codeAt kv_X2_codeAt ki_X2 kc_X2_codeAt (by decide +kernel) rfl (Nat.le_of_ble_eq_true rfl) (Nat.le_of_ble_eq_true rfl) (fun _ h => h) 0 rfl rfl (fun s => s) (fun _ _ _ _ h => h) rfl (Nat.le_of_ble_eq_true rfl) dX2_faultAsSaying_21 (fun v9 s9 hv9 => ?_)
          obtain ⟨rfl, rfl⟩ := hv9
          refine g_istore 24 O (lv' := [(5, .int (cs k)), (4, .int (nI k)), (3, .int 1), (2, .int 1), (1, .int (nI nw)), (0, .ref (a 0))]) dX2_faultAsSaying_24 (by decide) rfl ?_
          refine g_iload_n 26 O dX2_faultAsSaying_26 rfl 2 rfl ?_
          refine g_if_eq 27 O 48 dX2_faultAsSaying_27 (by decide) (fun h27 => False.elim (absurd h27 (by decide))) (fun h27 => ?_)
          refine g_iload 30 O dX2_faultAsSaying_30 0 rfl ?_
          refine g_callS 32 O (na := 1) (av := [.int (cs k)]) (c_X2_isWordLetter l E _ _ (cs k)) kl_X2_23 ks_X2_isWordLetter ki_X2 kc_X2_isWordLetter (by decide +kernel) rfl (Nat.le_of_ble_eq_true rfl) (Nat.le_of_ble_eq_true rfl) (fun _ h => h) (fun s => s) (fun _ _ _ _ h => h) rfl (Nat.le_of_ble_eq_true rfl) dX2_faultAsSaying_32 (fun v9 s9 hv9 => ?_)
          obtain ⟨rfl, rfl⟩ := hv9
          refine g_if_eq 35 O 48 dX2_faultAsSaying_35 (by decide) (fun h35 => ?_) (fun h35 => ?_)
          · -- taken
            refine g_iload_n 48 O dX2_faultAsSaying_48 rfl 2 rfl ?_
            refine g_if_eq 49 O 68 dX2_faultAsSaying_49 (by decide) (fun h49 => False.elim (absurd h49 (by decide))) (fun h49 => ?_)
            refine g_iload 52 O dX2_faultAsSaying_52 0 rfl ?_
            refine g_bipush 54 O (v := 110) dX2_faultAsSaying_54 (by decide) ?_
            refine g_icmp_ne 56 O 68 dX2_faultAsSaying_56 (by decide) (fun h56 => ?_) (fun h56 => ?_)
            · -- taken
              refine g_iload_n 68 O dX2_faultAsSaying_68 rfl 2 rfl ?_
              refine g_if_ne 69 O 90 dX2_faultAsSaying_69 (by decide) (fun h69 => ?_) (fun h69 => False.elim (absurd h69 (by decide)))
              refine g_iload 90 O dX2_faultAsSaying_90 1 rfl ?_
              exact g_iret 92 O dX2_faultAsSaying_92 (by rw [hP0, fsay_stop hrs (sp1_x (ite_f h35)) hlt]; exact ⟨rfl, rfl⟩)
            · -- not taken
              refine g_iload_n 59 O dX2_faultAsSaying_59 rfl 3 rfl ?_
              refine g_if_ne 60 O 68 dX2_faultAsSaying_60 (by decide) (fun h60 => ?_) (fun h60 => False.elim (absurd h60 (by decide)))
              refine g_iload_n 68 O dX2_faultAsSaying_68 rfl 2 rfl ?_
              refine g_if_ne 69 O 90 dX2_faultAsSaying_69 (by decide) (fun h69 => ?_) (fun h69 => False.elim (absurd h69 (by decide)))
              refine g_iload 90 O dX2_faultAsSaying_90 1 rfl ?_
              exact g_iret 92 O dX2_faultAsSaying_92 (by rw [hP0, fsay_stop hrs (sp1_x (ite_f h35)) hlt]; exact ⟨rfl, rfl⟩)
          · -- not taken
            refine g_iinc 38 O (v := nI (nw + 1)) (q := 4) (lv' := [(1, .int (nI (nw + 1))), (5, .int (cs k)), (4, .int (nI k)), (3, .int 1), (2, .int 1), (0, .ref (a 0))]) dX2_faultAsSaying_38 rfl (nI_1 nw) (by decide) rfl ?_
            refine g_iconst 41 O (v := 0) dX2_faultAsSaying_41 (by decide) ?_
            refine g_istore_n 42 O (lv' := [(2, .int 0), (1, .int (nI (nw + 1))), (5, .int (cs k)), (4, .int (nI k)), (3, .int 1), (0, .ref (a 0))]) dX2_faultAsSaying_42 rfl (by decide) rfl ?_
            refine g_iconst 43 O (v := 0) dX2_faultAsSaying_43 (by decide) ?_
            refine g_istore_n 44 O (lv' := [(3, .int 0), (2, .int 0), (1, .int (nI (nw + 1))), (5, .int (cs k)), (4, .int (nI k)), (0, .ref (a 0))]) dX2_faultAsSaying_44 rfl (by decide) rfl ?_
            refine g_goto 45 O 93 dX2_faultAsSaying_45 (by decide) ?_
            refine g_iinc 93 O (v := nI (k + 1)) (q := 4) (lv' := [(4, .int (nI (k + 1))), (3, .int 0), (2, .int 0), (1, .int (nI (nw + 1))), (5, .int (cs k)), (0, .ref (a 0))]) dX2_faultAsSaying_93 rfl (nI_1 k) (by decide) rfl ?_
            refine g_goto 96 O 9 dX2_faultAsSaying_96 (by decide) ?_
            refine g_sub [0, 1, 2, 3, 5] (lv' := [(4, .int (nI (k + 1))), (3, .int 0), (2, .int 0), (1, .int (nI (nw + 1))), (0, .ref (a 0))]) rfl ?_
            exact ih9 (k + 1) 2 (nw + 1) (nI (nw + 1)) 0 0 (by omega) (rs_go hrs (sp1_l (ite_t h35))) rfl (Or.inr (Or.inr ⟨rfl, rfl, rfl⟩)) (by omega)
      · -- case 2
        refine g_iload 9 O dX2_faultAsSaying_9 0 rfl ?_
        refine g_aload_n 11 O dX2_faultAsSaying_11 rfl 4 rfl ?_
        refine g_get 12 O (v := .int le) inX2 0 rfl rfl 1 (by decide) kf_X2_15 rfl dX2_faultAsSaying_12 ?_
        refine g_icmp_ge 15 O 99 dX2_faultAsSaying_15 (by decide) (fun h15 => ?_) (fun h15 => ?_)
        · -- taken
          have e : k = N := by rw [hle] at h15; have := ge_of_le (by omega) (by omega) h15; omega
          subst e
          refine g_aload_n 99 O dX2_faultAsSaying_99 rfl 4 rfl ?_
          refine g_get 100 O (v := .int le) inX2 0 rfl rfl 1 (by decide) kf_X2_15 rfl dX2_faultAsSaying_100 ?_
          exact g_iret 103 O dX2_faultAsSaying_103 (by rw [hP0, fsay_all hrs]; exact ⟨by rw [hle], rfl⟩)
        · -- not taken
          have hlt : k < N := by rw [hle] at h15; exact lt_of_nge (by omega) h15
          refine g_aload_n 18 O dX2_faultAsSaying_18 rfl 4 rfl ?_
          refine g_iload 19 O dX2_faultAsSaying_19 0 rfl ?_
          refine g_callV 21 O (na := 1) (av := [.int (nI k)]) (c_X2_codeAt l E a R le cs (nI k) N k hle hN rfl hlt) kl_X2_19 km_X2_codeAt kv_X2_codeAt ki_X2 kc_X2_codeAt (by decide +kernel) rfl (Nat.le_of_ble_eq_true rfl) (Nat.le_of_ble_eq_true rfl) (fun _ h => h) 0 rfl rfl (fun s => s) (fun _ _ _ _ h => h) rfl (Nat.le_of_ble_eq_true rfl) dX2_faultAsSaying_21 (fun v9 s9 hv9 => ?_)
          obtain ⟨rfl, rfl⟩ := hv9
          refine g_istore 24 O (lv' := [(5, .int (cs k)), (4, .int (nI k)), (3, .int 0), (2, .int 0), (1, .int (nI nw)), (0, .ref (a 0))]) dX2_faultAsSaying_24 (by decide) rfl ?_
          refine g_iload_n 26 O dX2_faultAsSaying_26 rfl 2 rfl ?_
          refine g_if_eq 27 O 48 dX2_faultAsSaying_27 (by decide) (fun h27 => ?_) (fun h27 => False.elim (absurd h27 (by decide)))
          refine g_iload_n 48 O dX2_faultAsSaying_48 rfl 2 rfl ?_
          refine g_if_eq 49 O 68 dX2_faultAsSaying_49 (by decide) (fun h49 => ?_) (fun h49 => False.elim (absurd h49 (by decide)))
          refine g_iload_n 68 O dX2_faultAsSaying_68 rfl 2 rfl ?_
          refine g_if_ne 69 O 90 dX2_faultAsSaying_69 (by decide) (fun h69 => False.elim (absurd h69 (by decide))) (fun h69 => ?_)
          refine g_iload_n 72 O dX2_faultAsSaying_72 rfl 4 rfl ?_
          refine g_iconst 73 O (v := 4) dX2_faultAsSaying_73 (by decide) ?_
          refine g_icmp_ge 74 O 90 dX2_faultAsSaying_74 (by decide) (fun h74 => ?_) (fun h74 => ?_)
          · -- taken
            refine g_iload 90 O dX2_faultAsSaying_90 1 rfl ?_
            exact g_iret 92 O dX2_faultAsSaying_92 (by rw [hP0, fsay_stop hrs (sp2_y (ge_of_le (n := 4) (by omega) (by decide) h74)) hlt]; exact ⟨rfl, rfl⟩)
          · -- not taken
            refine g_iload 77 O dX2_faultAsSaying_77 0 rfl ?_
            refine g_callS 79 O (na := 1) (av := [.int (cs k)]) (c_X2_isJoining l E _ _ (cs k)) kl_X2_27 ks_X2_isJoining ki_X2 kc_X2_isJoining (by decide +kernel) rfl (Nat.le_of_ble_eq_true rfl) (Nat.le_of_ble_eq_true rfl) (fun _ h => h) (fun s => s) (fun _ _ _ _ h => h) rfl (Nat.le_of_ble_eq_true rfl) dX2_faultAsSaying_79 (fun v9 s9 hv9 => ?_)
            obtain ⟨rfl, rfl⟩ := hv9
            refine g_if_eq 82 O 90 dX2_faultAsSaying_82 (by decide) (fun h82 => ?_) (fun h82 => ?_)
            · -- taken
              refine g_iload 90 O dX2_faultAsSaying_90 1 rfl ?_
              exact g_iret 92 O dX2_faultAsSaying_92 (by rw [hP0, fsay_stop hrs (sp2_x (ite_f h82)) hlt]; exact ⟨rfl, rfl⟩)
            · -- not taken
              refine g_iconst 85 O (v := 1) dX2_faultAsSaying_85 (by decide) ?_
              refine g_istore_n 86 O (lv' := [(3, .int 1), (5, .int (cs k)), (4, .int (nI k)), (2, .int 0), (1, .int (nI nw)), (0, .ref (a 0))]) dX2_faultAsSaying_86 rfl (by decide) rfl ?_
              refine g_goto 87 O 93 dX2_faultAsSaying_87 (by decide) ?_
              refine g_iinc 93 O (v := nI (k + 1)) (q := 2) (lv' := [(4, .int (nI (k + 1))), (3, .int 1), (5, .int (cs k)), (2, .int 0), (1, .int (nI nw)), (0, .ref (a 0))]) dX2_faultAsSaying_93 rfl (nI_1 k) (by decide) rfl ?_
              refine g_goto 96 O 9 dX2_faultAsSaying_96 (by decide) ?_
              refine g_sub [0, 1, 3, 4, 5] (lv' := [(4, .int (nI (k + 1))), (3, .int 1), (2, .int 0), (1, .int (nI nw)), (0, .ref (a 0))]) rfl ?_
              exact ih9 (k + 1) 0 nw (nI nw) 0 1 (by omega) (rs_go hrs (sp2_j (ite_t h82) (Nat.not_le.mp (fun q => h74 (nI_le (a := 4) q (by omega)))))) rfl (Or.inl ⟨rfl, rfl, rfl⟩) (by omega)
  exact L9 _ 0 0 0 0 0 1 (Nat.zero_le _) rfl rfl (Or.inl ⟨rfl, rfl, rfl⟩) (Nat.lt_succ_self _)

theorem gse_6 {cs : Nat → Int32} {k : Nat} (h : 6 ≤ k) : gse cs k = false := by
  have h2 : ¬ k < 6 := by omega
  simp [gse, h2]
theorem gse_x {cs : Nat → Int32} {k : Nat} (h : ¬ (48 ≤ cs k ∧ cs k ≤ 53)) : gse cs k = false := by simp only [gse, h]; simp
theorem gse_t {cs : Nat → Int32} {k : Nat} (h1 : k < 6) (h : 48 ≤ cs k ∧ cs k ≤ 53) : gse cs k = true := by simp [gse, h, h1]

set_option maxRecDepth 100000 in
set_option maxHeartbeats 4000000 in
theorem c_X2_faultAsSenses (l : Launch) (E : Ev) (a : Nat → Nat) (R : va_W) (le : Int32) (cs : Nat → Int32) (N : Nat) (hle : le = nI N) (hN : N ≤ 14) : Ctr l yX2_faultAsSenses cX2_faultAsSenses 3 (some .int) 1 21 E (fun s => wP E a s ++ R) [.ref (a 0)] ((le, cs)) (fun v s => v = some (.int (nI (fsen cs N))) ∧ s = (le, cs)) := by
  refine Ctr.of' (by decide +kernel) (Nat.le_of_ble_eq_true rfl) (fun X P0 hP0 O => ?_)
  refine g_sub [0] (lv' := [(0, .ref (a 0))]) rfl ?_
  refine g_iconst 0 O (v := 0) dX2_faultAsSenses_0 (by decide) ?_
  refine g_istore_n 1 O (lv' := [(1, .int 0), (0, .ref (a 0))]) dX2_faultAsSenses_1 rfl (by decide) rfl ?_
  refine g_sub [0, 1] (lv' := [(1, .int 0), (0, .ref (a 0))]) rfl ?_
  have L2 : ∀ (fuel : Nat) (k : Nat) (hk : k ≤ N) (hgs : ∀ j, j < k → gse cs j = true), N - k < fuel → G l E (fun s => wP E a s ++ R) P0 X 3 ((le, cs)) 2 [(1, .int (nI k)), (0, .ref (a 0))] [] := by
    intro fuel
    induction fuel with
    | zero => intro k hk hgs hfu; exact absurd hfu (Nat.not_lt_zero _)
    | succ fuel ih2 =>
      intro k hk hgs hfu
      refine g_iload_n 2 O dX2_faultAsSenses_2 rfl 0 rfl ?_
      refine g_aload_n 3 O dX2_faultAsSenses_3 rfl 1 rfl ?_
      refine g_get 4 O (v := .int le) inX2 0 rfl rfl 1 (by decide) kf_X2_15 rfl dX2_faultAsSenses_4 ?_
      refine g_icmp_ge 7 O 42 dX2_faultAsSenses_7 (by decide) (fun h7 => ?_) (fun h7 => ?_)
      · -- taken
        have e : k = N := by rw [hle] at h7; have := ge_of_le (by omega) (by omega) h7; omega
        subst e
        refine g_aload_n 42 O dX2_faultAsSenses_42 rfl 1 rfl ?_
        refine g_get 43 O (v := .int le) inX2 0 rfl rfl 1 (by decide) kf_X2_15 rfl dX2_faultAsSenses_43 ?_
        exact g_iret 46 O dX2_faultAsSenses_46 (by rw [hP0, fsen, fp_all hgs]; exact ⟨by rw [hle], rfl⟩)
      · -- not taken
        have hlt : k < N := by rw [hle] at h7; exact lt_of_nge (by omega) h7
        refine g_aload_n 10 O dX2_faultAsSenses_10 rfl 1 rfl ?_
        refine g_iload_n 11 O dX2_faultAsSenses_11 rfl 0 rfl ?_
        refine g_callV 12 O (na := 1) (av := [.int (nI k)]) (c_X2_codeAt l E a R le cs (nI k) N k hle hN rfl hlt) kl_X2_19 km_X2_codeAt kv_X2_codeAt ki_X2 kc_X2_codeAt (by decide +kernel) rfl (Nat.le_of_ble_eq_true rfl) (Nat.le_of_ble_eq_true rfl) (fun _ h => h) 0 rfl rfl (fun s => s) (fun _ _ _ _ h => h) rfl (Nat.le_of_ble_eq_true rfl) dX2_faultAsSenses_12 (fun v9 s9 hv9 => ?_)
        obtain ⟨rfl, rfl⟩ := hv9
        refine g_istore_n 15 O (lv' := [(2, .int (cs k)), (1, .int (nI k)), (0, .ref (a 0))]) dX2_faultAsSenses_15 rfl (by decide) rfl ?_
        refine g_iload_n 16 O dX2_faultAsSenses_16 rfl 1 rfl ?_
        refine g_bipush 17 O (v := 6) dX2_faultAsSenses_17 (by decide) ?_
        refine g_icmp_ge 19 O 34 dX2_faultAsSenses_19 (by decide) (fun h19 => ?_) (fun h19 => ?_)
        · -- taken
          refine g_iload_n 34 O dX2_faultAsSenses_34 rfl 1 rfl ?_
          exact g_iret 35 O dX2_faultAsSenses_35 (by rw [hP0, fsen, fp_stop hgs (gse_6 (ge_of_le (n := 6) (by omega) (by decide) h19)) (by omega) hlt]; exact ⟨rfl, rfl⟩)
        · -- not taken
          refine g_iload_n 22 O dX2_faultAsSenses_22 rfl 0 rfl ?_
          refine g_bipush 23 O (v := 48) dX2_faultAsSenses_23 (by decide) ?_
          refine g_icmp_lt 25 O 34 dX2_faultAsSenses_25 (by decide) (fun h25 => ?_) (fun h25 => ?_)
          · -- taken
            refine g_iload_n 34 O dX2_faultAsSenses_34 rfl 1 rfl ?_
            exact g_iret 35 O dX2_faultAsSenses_35 (by rw [hP0, fsen, fp_stop hgs (gse_x (fun q => Int32.not_le.mpr h25 q.1)) (by omega) hlt]; exact ⟨rfl, rfl⟩)
          · -- not taken
            refine g_iload_n 28 O dX2_faultAsSenses_28 rfl 0 rfl ?_
            refine g_bipush 29 O (v := 53) dX2_faultAsSenses_29 (by decide) ?_
            refine g_icmp_le 31 O 36 dX2_faultAsSenses_31 (by decide) (fun h31 => ?_) (fun h31 => ?_)
            · -- taken
              refine g_iinc 36 O (v := nI (k + 1)) (q := 1) (lv' := [(1, .int (nI (k + 1))), (2, .int (cs k)), (0, .ref (a 0))]) dX2_faultAsSenses_36 rfl (nI_1 k) (by decide) rfl ?_
              refine g_goto 39 O 2 dX2_faultAsSenses_39 (by decide) ?_
              refine g_sub [0, 2] (lv' := [(1, .int (nI (k + 1))), (0, .ref (a 0))]) rfl ?_
              exact ih2 (k + 1) (by omega) (fun j h => by
            rcases Nat.lt_or_ge j k with q | q
            · exact hgs j q
            · have e : j = k := by omega
              subst e; exact gse_t (lt_of_nge (n := 6) (by omega) h19) ⟨Int32.not_lt.mp h25, h31⟩) (by omega)
            · -- not taken
              refine g_iload_n 34 O dX2_faultAsSenses_34 rfl 1 rfl ?_
              exact g_iret 35 O dX2_faultAsSenses_35 (by rw [hP0, fsen, fp_stop hgs (gse_x (fun q => h31 q.2)) (by omega) hlt]; exact ⟨rfl, rfl⟩)
  exact L2 _ 0 (Nat.zero_le _) (fun j h => absurd h (Nat.not_lt_zero _)) (Nat.lt_succ_self _)

theorem isSay_iff {cs : Nat → Int32} {n : Nat} : isSay cs n = true ↔ ∃ nw, rs cs n = some (2, nw) := by
  unfold isSay
  cases e : rs cs n with
  | none => simp
  | some s =>
    obtain ⟨x, y⟩ := s
    simp
theorem isSay_0 (cs : Nat → Int32) : isSay cs 0 = false := rfl
theorem isSay_n {cs : Nat → Int32} {n : Nat} (h : ¬ fsay cs n = n) : isSay cs n = false := by
  cases e : isSay cs n with
  | false => rfl
  | true => obtain ⟨nw, h1⟩ := isSay_iff.mp e; exact absurd (fsay_all h1) h
theorem fsay_rs {cs : Nat → Int32} : ∀ {n : Nat}, fsay cs n = n → ∃ s, rs cs n = some s
  | 0, _ => ⟨(0, 0), rfl⟩
  | n + 1, h => by
    unfold fsay at h
    rw [fp] at h
    split at h
    · rename_i h2; exact Option.isSome_iff_exists.mp h2.2
    · have := fp_le (fun k => (rs cs (k + 1)).isSome) n; omega
theorem isSay_s {cs : Nat → Int32} {n : Nat} (h : fsay cs (n + 1) = n + 1) : isSay cs (n + 1) = decide (97 ≤ cs n ∧ cs n ≤ 102) := by
  obtain ⟨s, hs⟩ := fsay_rs h
  have h1 := hs
  rw [rs] at h1
  cases e : rs cs n with
  | none => rw [e] at h1; cases h1
  | some s0 =>
    rw [e] at h1
    have h1 : sp s0 (cs n) = some s := h1
    unfold isSay
    rw [hs]
    unfold sp at h1
    split at h1
    · split at h1
      · rename_i h2; cases h1; rcases h2.1 with q | q <;> rw [q] <;> rfl
      · cases h1
    · split at h1
      · rename_i h2; cases h1; rw [h2.2]; rfl
      · split at h1
        · rename_i h2; cases h1; simp [h2]
        · cases h1

set_option maxRecDepth 100000 in
set_option maxHeartbeats 4000000 in
theorem c_X2_isSaying (l : Launch) (E : Ev) (a : Nat → Nat) (R : va_W) (le : Int32) (cs : Nat → Int32) (N : Nat) (hle : le = nI N) (hN : N ≤ 14) : Ctr l yX2_isSaying cX2_isSaying 1 (some .boolean) 2 46 E (fun s => wP E a s ++ R) [.ref (a 0)] ((le, cs)) (fun v s => v = some (.int (bi (isSay cs N))) ∧ s = (le, cs)) := by
  refine Ctr.of' (by decide +kernel) (Nat.le_of_ble_eq_true rfl) (fun X P0 hP0 O => ?_)
  refine g_sub [0] (lv' := [(0, .ref (a 0))]) rfl ?_
  refine g_aload_n 0 O dX2_isSaying_0 rfl 0 rfl ?_
  refine g_callV 1 O (na := 0) (av := []) (c_X2_faultAsSaying l E a R le cs N hle hN) kl_X2_30 km_X2_faultAsSaying kv_X2_faultAsSaying ki_X2 kc_X2_faultAsSaying (by decide +kernel) rfl (Nat.le_of_ble_eq_true rfl) (Nat.le_of_ble_eq_true rfl) (fun _ h => h) 0 rfl rfl (fun s => s) (fun _ _ _ _ h => h) rfl (Nat.le_of_ble_eq_true rfl) dX2_isSaying_1 (fun v9 s9 hv9 => ?_)
  obtain ⟨rfl, rfl⟩ := hv9
  refine g_aload_n 4 O dX2_isSaying_4 rfl 0 rfl ?_
  refine g_get 5 O (v := .int le) inX2 0 rfl rfl 1 (by decide) kf_X2_15 rfl dX2_isSaying_5 ?_
  refine g_icmp_ne 8 O 31 dX2_isSaying_8 (by decide) (fun h8 => ?_) (fun h8 => ?_)
  · -- taken
    refine g_iconst 31 O (v := 0) dX2_isSaying_31 (by decide) ?_
    exact g_zret (rfl) 32 O dX2_isSaying_32 (by rw [hP0, isSay_n (fun e => h8 (by rw [e, hle]))]; exact ⟨rfl, rfl⟩)
  · -- not taken
    have hf : fsay cs N = N := by rw [hle] at h8; exact (nI_eq (by have := fp_le (fun k => (rs cs (k + 1)).isSome) N; unfold fsay; omega) (by omega)).mp h8
    rcases N with _ | K
    · -- 0
      refine g_aload_n 11 O dX2_isSaying_11 rfl 0 rfl ?_
      refine g_aload_n 12 O dX2_isSaying_12 rfl 0 rfl ?_
      refine g_get 13 O (v := .int le) inX2 0 rfl rfl 1 (by decide) kf_X2_15 rfl dX2_isSaying_13 ?_
      refine g_iconst 16 O (v := 1) dX2_isSaying_16 (by decide) ?_
      refine g_isub 17 O dX2_isSaying_17 ?_
      refine g_callV 18 O (na := 1) (av := [.int (le - 1)]) (c_X2_codeAt_m l E a R le cs (le - 1) (by rw [hle]; rfl)) kl_X2_19 km_X2_codeAt kv_X2_codeAt ki_X2 kc_X2_codeAt (by decide +kernel) rfl (Nat.le_of_ble_eq_true rfl) (Nat.le_of_ble_eq_true rfl) (fun _ h => h) 0 rfl rfl (fun s => s) (fun _ _ _ _ h => h) rfl (Nat.le_of_ble_eq_true rfl) dX2_isSaying_18 (fun v9 s9 hv9 => ?_)
      obtain ⟨rfl, rfl⟩ := hv9
      refine g_callS 21 O (na := 1) (av := [.int (-1)]) (c_X2_isWordLetter l E _ _ (-1)) kl_X2_23 ks_X2_isWordLetter ki_X2 kc_X2_isWordLetter (by decide +kernel) rfl (Nat.le_of_ble_eq_true rfl) (Nat.le_of_ble_eq_true rfl) (fun _ h => h) (fun s => s) (fun _ _ _ _ h => h) rfl (Nat.le_of_ble_eq_true rfl) dX2_isSaying_21 (fun v9 s9 hv9 => ?_)
      obtain ⟨rfl, rfl⟩ := hv9
      refine g_if_eq 24 O 31 dX2_isSaying_24 (by decide) (fun h24 => ?_) (fun h24 => False.elim (h24 rfl))
      refine g_iconst 31 O (v := 0) dX2_isSaying_31 (by decide) ?_
      exact g_zret (rfl) 32 O dX2_isSaying_32 (by rw [hP0, isSay_0]; exact ⟨rfl, rfl⟩)
    · -- n
      refine g_aload_n 11 O dX2_isSaying_11 rfl 0 rfl ?_
      refine g_aload_n 12 O dX2_isSaying_12 rfl 0 rfl ?_
      refine g_get 13 O (v := .int le) inX2 0 rfl rfl 1 (by decide) kf_X2_15 rfl dX2_isSaying_13 ?_
      refine g_iconst 16 O (v := 1) dX2_isSaying_16 (by decide) ?_
      refine g_isub 17 O dX2_isSaying_17 ?_
      refine g_callV 18 O (na := 1) (av := [.int (le - 1)]) (c_X2_codeAt l E a R le cs (le - 1) (K + 1) K hle hN (by rw [hle]; exact pk_sub (a := K + 1) (b := 1) (by omega)) (by omega)) kl_X2_19 km_X2_codeAt kv_X2_codeAt ki_X2 kc_X2_codeAt (by decide +kernel) rfl (Nat.le_of_ble_eq_true rfl) (Nat.le_of_ble_eq_true rfl) (fun _ h => h) 0 rfl rfl (fun s => s) (fun _ _ _ _ h => h) rfl (Nat.le_of_ble_eq_true rfl) dX2_isSaying_18 (fun v9 s9 hv9 => ?_)
      obtain ⟨rfl, rfl⟩ := hv9
      refine g_callS 21 O (na := 1) (av := [.int (cs K)]) (c_X2_isWordLetter l E _ _ (cs K)) kl_X2_23 ks_X2_isWordLetter ki_X2 kc_X2_isWordLetter (by decide +kernel) rfl (Nat.le_of_ble_eq_true rfl) (Nat.le_of_ble_eq_true rfl) (fun _ h => h) (fun s => s) (fun _ _ _ _ h => h) rfl (Nat.le_of_ble_eq_true rfl) dX2_isSaying_21 (fun v9 s9 hv9 => ?_)
      obtain ⟨rfl, rfl⟩ := hv9
      refine g_if_eq 24 O 31 dX2_isSaying_24 (by decide) (fun h24 => ?_) (fun h24 => ?_)
      · -- taken
        refine g_iconst 31 O (v := 0) dX2_isSaying_31 (by decide) ?_
        exact g_zret (rfl) 32 O dX2_isSaying_32 (by rw [hP0, isSay_s hf, decide_eq_false (ite_f h24)]; exact ⟨rfl, rfl⟩)
      · -- not taken
        refine g_iconst 27 O (v := 1) dX2_isSaying_27 (by decide) ?_
        refine g_goto 28 O 32 dX2_isSaying_28 (by decide) ?_
        exact g_zret (rfl) 32 O dX2_isSaying_32 (by rw [hP0, isSay_s hf, decide_eq_true (ite_t h24)]; exact ⟨rfl, rfl⟩)

set_option maxRecDepth 100000 in
set_option maxHeartbeats 4000000 in
theorem c_X2_isSenses (l : Launch) (E : Ev) (a : Nat → Nat) (R : va_W) (le : Int32) (cs : Nat → Int32) (N : Nat) (hle : le = nI N) (hN : N ≤ 14) : Ctr l yX2_isSenses cX2_isSenses 1 (some .boolean) 2 43 E (fun s => wP E a s ++ R) [.ref (a 0)] ((le, cs)) (fun v s => v = some (.int (bi (isSen cs N))) ∧ s = (le, cs)) := by
  refine Ctr.of' (by decide +kernel) (Nat.le_of_ble_eq_true rfl) (fun X P0 hP0 O => ?_)
  refine g_sub [0] (lv' := [(0, .ref (a 0))]) rfl ?_
  refine g_aload_n 0 O dX2_isSenses_0 rfl 0 rfl ?_
  refine g_get 1 O (v := .int le) inX2 0 rfl rfl 1 (by decide) kf_X2_15 rfl dX2_isSenses_1 ?_
  refine g_bipush 4 O (v := 6) dX2_isSenses_4 (by decide) ?_
  refine g_icmp_ne 6 O 24 dX2_isSenses_6 (by decide) (fun h6 => ?_) (fun h6 => ?_)
  · -- taken
    refine g_iconst 24 O (v := 0) dX2_isSenses_24 (by decide) ?_
    exact g_zret (rfl) 25 O dX2_isSenses_25 (by rw [hP0, isSen, decide_eq_false (fun e => h6 (by rw [hle, e]; rfl))]; exact ⟨rfl, rfl⟩)
  · -- not taken
    rw [hle] at h6
    have h6 : N = 6 := (nI_eq (b := 6) (by omega) (by decide)).mp h6
    refine g_aload_n 9 O dX2_isSenses_9 rfl 0 rfl ?_
    refine g_callV 10 O (na := 0) (av := []) (c_X2_faultAsSenses l E a R le cs N hle hN) kl_X2_34 km_X2_faultAsSenses kv_X2_faultAsSenses ki_X2 kc_X2_faultAsSenses (by decide +kernel) rfl (Nat.le_of_ble_eq_true rfl) (Nat.le_of_ble_eq_true rfl) (fun _ h => h) 0 rfl rfl (fun s => s) (fun _ _ _ _ h => h) rfl (Nat.le_of_ble_eq_true rfl) dX2_isSenses_10 (fun v9 s9 hv9 => ?_)
    obtain ⟨rfl, rfl⟩ := hv9
    refine g_aload_n 13 O dX2_isSenses_13 rfl 0 rfl ?_
    refine g_get 14 O (v := .int le) inX2 0 rfl rfl 1 (by decide) kf_X2_15 rfl dX2_isSenses_14 ?_
    refine g_icmp_ne 17 O 24 dX2_isSenses_17 (by decide) (fun h17 => ?_) (fun h17 => ?_)
    · -- taken
      refine g_iconst 24 O (v := 0) dX2_isSenses_24 (by decide) ?_
      exact g_zret (rfl) 25 O dX2_isSenses_25 (by rw [hP0, isSen, decide_eq_true h6, decide_eq_false (p := fsen cs N = N) (fun e => h17 (by rw [hle, e]))]; exact ⟨rfl, rfl⟩)
    · -- not taken
      rw [hle] at h17
      have h17 : fsen cs N = N := (nI_eq (by have := fp_le (gse cs) N; unfold fsen; omega) (by omega)).mp h17
      refine g_iconst 20 O (v := 1) dX2_isSenses_20 (by decide) ?_
      refine g_goto 21 O 25 dX2_isSenses_21 (by decide) ?_
      exact g_zret (rfl) 25 O dX2_isSenses_25 (by rw [hP0, isSen, decide_eq_true h6, decide_eq_true h17]; exact ⟨rfl, rfl⟩)
