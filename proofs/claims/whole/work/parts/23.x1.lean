theorem sy0 {s0 : Sc} {z : Nat → Nat} {y : Sy} (hs : SyA s0 z y) : s0.1.1 = 0 ↔ y.1 = 0 := by
  rw [hs.1.1]
  exact nI_eq (b := 0) (by have := hs.1.2.1; omega) (by decide)
theorem lc0 {x y : Int64} (h : lg_cmp x y = 0) : x = y := by
  unfold lg_cmp at h
  split at h
  · exact absurd h (by decide)
  · split at h
    · assumption
    · exact absurd h (by decide)
theorem lc1 {x y : Int64} (h : ¬ lg_cmp x y = 0) : ¬ x = y := by
  intro e
  apply h
  subst e
  unfold lg_cmp
  rw [if_neg (Int64.lt_irrefl), if_pos rfl]
theorem fB_lt (q : Nat → Bool) : ∀ n, fB q n < 2 ^ n
  | 0 => Nat.zero_lt_one
  | n + 1 => by have := fB_lt q n; rw [fB, Nat.pow_succ]; split <;> omega
theorem orI : ∀ f, f < 6 → ∀ v, v < 64 → v < 2 ^ f → nI v ||| ((1 : Int32) <<< (nI f &&& 31)) = nI (v + 2 ^ f) := by decide +kernel
theorem clI : ∀ f, f < 6 → ∀ v, v < 64 → v < 2 ^ f → nI (v + (64 - 2 ^ f)) &&& (((1 : Int32) <<< (nI f &&& 31)) ^^^ (-1)) = nI (v + (64 - 2 ^ (f + 1))) := by decide +kernel
theorem p6 : ∀ f, f < 6 → 2 ^ f ≤ 64 ∧ 2 ^ (f + 1) ≤ 64 := by decide
theorem HrW_ch {h : Hc} {y : Hr} (hh : HrW h y) (p : Nat) (hp : p < y.1) : HrW (h.1, h.2.1, h.2.2.1, h.2.2.2.1, upd h.2.2.2.2 p (h.2.2.2.2 p + 1)) (y.1, y.2.1, y.2.2.1, y.2.2.2.1, upd y.2.2.2.2 p (y.2.2.2.2 p + 1)) := by
  refine ⟨hh.1, hh.2.1, fun k hk => ?_⟩
  obtain ⟨a1, a2, a3, a4⟩ := hh.2.2 k hk
  refine ⟨a1, a2, a3, ?_⟩
  show upd h.2.2.2.2 p (h.2.2.2.2 p + 1) k = upd y.2.2.2.2 p (y.2.2.2.2 p + 1) k
  by_cases e : k = p
  · subst e; rw [upd_s, upd_s, a4]
  · rw [upd_n _ _ e, upd_n _ _ e, a4]

set_option maxRecDepth 100000 in
set_option maxHeartbeats 4000000 in
theorem c_X5_taken (l : Launch) (E : Ev) (a : Nat → Nat) (w rds sd ad : Int32) (pg : Pc) (sn : Nat → Int32) (s0 s1 s2 : Sc) (h : Hc) (t : Tc) (ik iw ir : Int32) (ih : Hc) (it : Tc) (p0 : Int32) (z : Nat → Nat) (y : Sy) (hs : SyA s0 z y) (hr : Hr) (hh : HrW h hr) (p : Nat) (hp : p0 = nI p) (hp0 : p < hr.1) : Ctr l yX5_taken cX5_taken 2 (some .int) 1 21 E (wX E a) [.ref (a 0), .int p0] (((w, rds, sd, ad), pg, sn, s0, s1, s2, h, t, (ik, iw, ir), ih, it)) (fun v8 s8 => v8 = some (.int (tkI z y (hr.2.1 p))) ∧ s8 = ((w, rds, sd, ad), pg, sn, s0, s1, s2, h, t, (ik, iw, ir), ih, it)) := by
  refine Ctr.of' (by decide +kernel) (Nat.le_of_ble_eq_true rfl) (fun X P0 hP0 O => ?_)
  refine g_sub [0, 1] (lv' := [(0, .ref (a 0)), (1, .int p0)]) rfl ?_
  refine g_aload_n 0 O dX5_taken_0 rfl 0 rfl ?_
  refine g_get 1 O (v := .ref (a 4)) inX5 0 rfl rfl 2 (by decide) kf_X5_23 rfl dX5_taken_1 ?_
  refine g_callV 4 O (na := 0) (av := []) (c_X3_isNone l E (sh a 4) (r_s0 E a (w, rds, sd, ad) pg sn s1 s2 h t (ik, iw, ir) ih it) s0.1.1 s0.1.2.1 s0.1.2.2.1 s0.1.2.2.2.1 s0.1.2.2.2.2 s0.2.1 s0.2.2.1 s0.2.2.2.1 s0.2.2.2.2.1 s0.2.2.2.2.2.1 s0.2.2.2.2.2.2 ) kl_X5_121 km_X3_isNone kv_X3_isNone ki_X3 kc_X3_isNone (by decide +kernel) rfl (Nat.le_of_ble_eq_true rfl) (Nat.le_of_ble_eq_true rfl) (fun H9 h9 => to_s0 E a (w, rds, sd, ad) pg sn s0 s1 s2 h t (ik, iw, ir) ih it H9 h9) 0 rfl rfl (fun _ => ((w, rds, sd, ad), pg, sn, s0, s1, s2, h, t, (ik, iw, ir), ih, it)) (fun _ _ H9 hp h9 => by obtain ⟨-, rfl⟩ := hp; exact of_s0 E a (w, rds, sd, ad) pg sn s1 s2 h t (ik, iw, ir) ih it _ H9 h9) rfl (Nat.le_of_ble_eq_true rfl) dX5_taken_4 (fun v9 s9 hv9 => ?_)
  obtain ⟨rfl, rfl⟩ := hv9
  refine g_if_eq 7 O 12 dX5_taken_7 (by decide) (fun h7 => ?_) (fun h7 => ?_)
  · -- taken
    have hy0 : ¬ y.1 = 0 := fun e => ite_f h7 ((sy0 hs).mpr e)
    have hN := NR_pos (y := y) (by omega)
    refine g_aload_n 12 O dX5_taken_12 rfl 0 rfl ?_
    refine g_get 13 O (v := .ref (a 25)) inX5 0 rfl rfl 5 (by decide) kf_X5_36 rfl dX5_taken_13 ?_
    refine g_iload_n 16 O dX5_taken_16 rfl 1 rfl ?_
    refine g_callV 17 O (na := 1) (av := [.int p0]) (c_X0_kindOf l E (sh a 25) (r_h E a (w, rds, sd, ad) pg sn s0 s1 s2 t (ik, iw, ir) ih it) h.1 h.2.1 h.2.2.1 h.2.2.2.1 h.2.2.2.2 p0 hr.1 p hh.1 hh.2.1 hp hp0) kl_X5_156 km_X0_kindOf kv_X0_kindOf ki_X0 kc_X0_kindOf (by decide +kernel) rfl (Nat.le_of_ble_eq_true rfl) (Nat.le_of_ble_eq_true rfl) (fun H9 h9 => to_h E a (w, rds, sd, ad) pg sn s0 s1 s2 h t (ik, iw, ir) ih it H9 h9) 0 rfl rfl (fun _ => ((w, rds, sd, ad), pg, sn, s0, s1, s2, h, t, (ik, iw, ir), ih, it)) (fun _ _ H9 hp h9 => by obtain ⟨-, rfl⟩ := hp; exact of_h E a (w, rds, sd, ad) pg sn s0 s1 s2 t (ik, iw, ir) ih it _ H9 h9) rfl (Nat.le_of_ble_eq_true rfl) dX5_taken_17 (fun v9 s9 hv9 => ?_)
    obtain ⟨rfl, rfl⟩ := hv9
    obtain ⟨k, hk⟩ : ∃ k, k = hr.2.1 p := ⟨_, rfl⟩
    have hk4 := (hh.2.2 p hp0).1.2
    have hk5 : k = 0 ∨ k = 1 ∨ k = 2 ∨ k = 3 ∨ k = 4 := by omega
    have hkk : h.2.1 p = nI k := by rw [hk]; exact (hh.2.2 p hp0).1.1
    rcases hk5 with rfl | rfl | rfl | rfl | rfl
    ·
      refine g_tabOut 20 O 78 dX5_taken_20 (Or.inl (by rw [hkk]; decide)) (by decide) ?_
      refine g_iconst 78 O (v := 0) dX5_taken_78 (by decide) ?_
      exact g_iret 79 O dX5_taken_79 (by rw [hP0, tkI, if_neg hy0, ← hk]; exact ⟨rfl, rfl⟩)
    ·
      refine g_si 1 (hkk) ?_
      refine g_tabIn 20 O 52 dX5_taken_20 (by decide) (by decide) rfl (by decide) ?_
      refine g_aload_n 52 O dX5_taken_52 rfl 0 rfl ?_
      refine g_get 53 O (v := .ref (a 4)) inX5 0 rfl rfl 2 (by decide) kf_X5_23 rfl dX5_taken_53 ?_
      refine g_getN 56 O (v := .int s0.1.2.1) inX3 4 rfl rfl 7 (by decide) (fun _ h => h.2.2.2.1) rfl dX5_taken_56 ?_
      refine g_iconst 59 O (v := 1) dX5_taken_59 (by decide) ?_
      refine g_isub 60 O dX5_taken_60 ?_
      refine g_si (nI (NR y - 1)) (by rw [hs.2.1]; exact pk_sub (b := 1) hN) ?_
      exact g_iret 61 O dX5_taken_61 (by rw [hP0, tkI, if_neg hy0, ← hk]; exact ⟨rfl, rfl⟩)
    ·
      refine g_si 2 (hkk) ?_
      refine g_tabIn 20 O 62 dX5_taken_20 (by decide) (by decide) rfl (by decide) ?_
      refine g_aload_n 62 O dX5_taken_62 rfl 0 rfl ?_
      refine g_get 63 O (v := .ref (a 4)) inX5 0 rfl rfl 2 (by decide) kf_X5_23 rfl dX5_taken_63 ?_
      refine g_getN 66 O (v := .int s0.1.2.2.1) inX3 4 rfl rfl 8 (by decide) (fun _ h => h.2.2.2.2.1) rfl dX5_taken_66 ?_
      refine g_si (nI (mx (fun r => pcn (TR z y r)) (NR y))) (hs.2.2.2.1) ?_
      exact g_iret 69 O dX5_taken_69 (by rw [hP0, tkI, if_neg hy0, ← hk]; exact ⟨rfl, rfl⟩)
    ·
      refine g_si 3 (hkk) ?_
      refine g_tabIn 20 O 70 dX5_taken_20 (by decide) (by decide) rfl (by decide) ?_
      refine g_aload_n 70 O dX5_taken_70 rfl 0 rfl ?_
      refine g_get 71 O (v := .ref (a 4)) inX5 0 rfl rfl 2 (by decide) kf_X5_23 rfl dX5_taken_71 ?_
      refine g_getN 74 O (v := .int s0.1.2.2.2.1) inX3 4 rfl rfl 9 (by decide) (fun _ h => h.2.2.2.2.2.1) rfl dX5_taken_74 ?_
      refine g_si (nI (mn (fun r => pcn (TR z y r)) (NR y))) (hs.2.2.2.2.1) ?_
      exact g_iret 77 O dX5_taken_77 (by rw [hP0, tkI, if_neg hy0, ← hk]; exact ⟨rfl, rfl⟩)
    ·
      refine g_si 4 (hkk) ?_
      refine g_tabIn 20 O 70 dX5_taken_20 (by decide) (by decide) rfl (by decide) ?_
      refine g_aload_n 70 O dX5_taken_70 rfl 0 rfl ?_
      refine g_get 71 O (v := .ref (a 4)) inX5 0 rfl rfl 2 (by decide) kf_X5_23 rfl dX5_taken_71 ?_
      refine g_getN 74 O (v := .int s0.1.2.2.2.1) inX3 4 rfl rfl 9 (by decide) (fun _ h => h.2.2.2.2.2.1) rfl dX5_taken_74 ?_
      refine g_si (nI (mn (fun r => pcn (TR z y r)) (NR y))) (hs.2.2.2.2.1) ?_
      exact g_iret 77 O dX5_taken_77 (by rw [hP0, tkI, if_neg hy0, ← hk]; exact ⟨rfl, rfl⟩)
  · -- not taken
    refine g_iconst 10 O (v := (-1)) dX5_taken_10 (by decide) ?_
    exact g_iret 11 O dX5_taken_11 (by rw [hP0, tkI, if_pos ((sy0 hs).mp (ite_t h7))]; exact ⟨rfl, rfl⟩)

set_option maxRecDepth 100000 in
set_option maxHeartbeats 4000000 in
theorem c_X5_actsBy (l : Launch) (E : Ev) (a : Nat → Nat) (w rds sd ad : Int32) (pg : Pc) (sn : Nat → Int32) (s0 s1 s2 : Sc) (h : Hc) (t : Tc) (ik iw ir : Int32) (ih : Hc) (it : Tc) (p0 p1 p2 : Int32) (z : Nat → Nat) (y : Sy) (hs : SyA s0 z y) (hr : Hr) (hh : HrW h hr) (p : Nat) (hp : p0 = nI p) (hp0 : p < hr.1) (r : Nat) (hq : p1 = nI r) (hr0 : r < NR y) (wn : Nat) (hw : p2 = nI wn) (hw0 : wn < 64) : Ctr l yX5_actsBy cX5_actsBy 5 (some .boolean) 1 22 E (wX E a) [.ref (a 0), .int p0, .int p1, .int p2] (((w, rds, sd, ad), pg, sn, s0, s1, s2, h, t, (ik, iw, ir), ih, it)) (fun v8 s8 => v8 = some (.int (bi (ac (hr.2.1 p) (TR z y r) wn))) ∧ s8 = ((w, rds, sd, ad), pg, sn, s0, s1, s2, h, t, (ik, iw, ir), ih, it)) := by
  refine Ctr.of' (by decide +kernel) (Nat.le_of_ble_eq_true rfl) (fun X P0 hP0 O => ?_)
  refine g_sub [0, 1, 2, 3] (lv' := [(0, .ref (a 0)), (1, .int p0), (2, .int p1), (3, .int p2)]) rfl ?_
  refine g_aload_n 0 O dX5_actsBy_0 rfl 0 rfl ?_
  refine g_get 1 O (v := .ref (a 4)) inX5 0 rfl rfl 2 (by decide) kf_X5_23 rfl dX5_actsBy_1 ?_
  refine g_iload_n 4 O dX5_actsBy_4 rfl 2 rfl ?_
  refine g_callV 5 O (na := 1) (av := [.int p1]) (c_X3_truth l E (sh a 4) (r_s0 E a (w, rds, sd, ad) pg sn s1 s2 h t (ik, iw, ir) ih it) s0.1.1 s0.1.2.1 s0.1.2.2.1 s0.1.2.2.2.1 s0.1.2.2.2.2 s0.2.1 s0.2.2.1 s0.2.2.2.1 s0.2.2.2.2.1 s0.2.2.2.2.2.1 s0.2.2.2.2.2.2 p1 (NR y) r hs.2.1 (NR_le hs.1.2.1) hq hr0) kl_X5_104 km_X3_truth kv_X3_truth ki_X3 kc_X3_truth (by decide +kernel) rfl (Nat.le_of_ble_eq_true rfl) (Nat.le_of_ble_eq_true rfl) (fun H9 h9 => to_s0 E a (w, rds, sd, ad) pg sn s0 s1 s2 h t (ik, iw, ir) ih it H9 h9) 0 rfl rfl (fun _ => ((w, rds, sd, ad), pg, sn, s0, s1, s2, h, t, (ik, iw, ir), ih, it)) (fun _ _ H9 hp h9 => by obtain ⟨-, rfl⟩ := hp; exact of_s0 E a (w, rds, sd, ad) pg sn s1 s2 h t (ik, iw, ir) ih it _ H9 h9) rfl (Nat.le_of_ble_eq_true rfl) dX5_actsBy_5 (fun v9 s9 hv9 => ?_)
  obtain ⟨rfl, rfl⟩ := hv9
  refine g_sl (TR z y r) (hs.2.2.1 r hr0) ?_
  refine g_iload_n 8 O dX5_actsBy_8 rfl 3 rfl ?_
  refine g_callS 9 O (na := 2) (av := [.long (TR z y r), .int p2]) (c_X5_bitOf l E _ _ (TR z y r) p2) kl_X5_117 ks_X5_bitOf ki_X5 kc_X5_bitOf (by decide +kernel) rfl (Nat.le_of_ble_eq_true rfl) (Nat.le_of_ble_eq_true rfl) (fun _ h => h) (fun s => s) (fun _ _ _ _ h => h) rfl (Nat.le_of_ble_eq_true rfl) dX5_actsBy_9 (fun v9 s9 hv9 => ?_)
  obtain ⟨rfl, rfl⟩ := hv9
  refine g_si (bi (tb (TR z y r) wn)) (by rw [hw]; exact bit64 hw0) ?_
  refine g_iconst 12 O (v := 1) dX5_actsBy_12 (by decide) ?_
  refine g_icmp_ne 13 O 20 dX5_actsBy_13 (by decide) (fun h13 => ?_) (fun h13 => ?_)
  · -- taken
    refine g_iconst 20 O (v := 0) dX5_actsBy_20 (by decide) ?_
    refine g_istore 21 O (lv' := [(4, .int 0), (0, .ref (a 0)), (1, .int p0), (2, .int p1), (3, .int p2)]) dX5_actsBy_21 (by decide) rfl ?_
    refine g_aload_n 23 O dX5_actsBy_23 rfl 1 rfl ?_
    refine g_get 24 O (v := .ref (a 25)) inX5 0 rfl rfl 5 (by decide) kf_X5_36 rfl dX5_actsBy_24 ?_
    refine g_iload_n 27 O dX5_actsBy_27 rfl 2 rfl ?_
    refine g_callV 28 O (na := 1) (av := [.int p0]) (c_X0_kindOf l E (sh a 25) (r_h E a (w, rds, sd, ad) pg sn s0 s1 s2 t (ik, iw, ir) ih it) h.1 h.2.1 h.2.2.1 h.2.2.2.1 h.2.2.2.2 p0 hr.1 p hh.1 hh.2.1 hp hp0) kl_X5_156 km_X0_kindOf kv_X0_kindOf ki_X0 kc_X0_kindOf (by decide +kernel) rfl (Nat.le_of_ble_eq_true rfl) (Nat.le_of_ble_eq_true rfl) (fun H9 h9 => to_h E a (w, rds, sd, ad) pg sn s0 s1 s2 h t (ik, iw, ir) ih it H9 h9) 0 rfl rfl (fun _ => ((w, rds, sd, ad), pg, sn, s0, s1, s2, h, t, (ik, iw, ir), ih, it)) (fun _ _ H9 hp h9 => by obtain ⟨-, rfl⟩ := hp; exact of_h E a (w, rds, sd, ad) pg sn s0 s1 s2 t (ik, iw, ir) ih it _ H9 h9) rfl (Nat.le_of_ble_eq_true rfl) dX5_actsBy_28 (fun v9 s9 hv9 => ?_)
    obtain ⟨rfl, rfl⟩ := hv9
    refine g_iconst 31 O (v := 4) dX5_actsBy_31 (by decide) ?_
    refine g_icmp_ne 32 O 40 dX5_actsBy_32 (by decide) (fun h32 => ?_) (fun h32 => ?_)
    · -- taken
      refine g_iload 40 O dX5_actsBy_40 0 rfl ?_
      refine g_if_ne 42 O 49 dX5_actsBy_42 (by decide) (fun h42 => False.elim (absurd h42 (by decide))) (fun h42 => ?_)
      refine g_iconst 45 O (v := 1) dX5_actsBy_45 (by decide) ?_
      refine g_goto 46 O 50 dX5_actsBy_46 (by decide) ?_
      exact g_zret (rfl) 50 O dX5_actsBy_50 (by have hk4 := (hh.2.2 p hp0).1.2; rw [hP0, ac, if_neg (fun e => h32 (by rw [(hh.2.2 p hp0).1.1, e]; rfl)), bi_n1 h13]; exact ⟨rfl, rfl⟩)
    · -- not taken
      refine g_iload 35 O dX5_actsBy_35 0 rfl ?_
      refine g_goto 37 O 50 dX5_actsBy_37 (by decide) ?_
      exact g_zret (rfl) 50 O dX5_actsBy_50 (by have hk4 := (hh.2.2 p hp0).1.2; rw [hP0, ac, if_pos (by rw [(hh.2.2 p hp0).1.1] at h32; exact (nI_eq (b := 4) (by omega) (by decide)).mp h32), bi_n1 h13]; exact ⟨rfl, rfl⟩)
  · -- not taken
    refine g_iconst 16 O (v := 1) dX5_actsBy_16 (by decide) ?_
    refine g_goto 17 O 21 dX5_actsBy_17 (by decide) ?_
    refine g_istore 21 O (lv' := [(4, .int 1), (0, .ref (a 0)), (1, .int p0), (2, .int p1), (3, .int p2)]) dX5_actsBy_21 (by decide) rfl ?_
    refine g_aload_n 23 O dX5_actsBy_23 rfl 1 rfl ?_
    refine g_get 24 O (v := .ref (a 25)) inX5 0 rfl rfl 5 (by decide) kf_X5_36 rfl dX5_actsBy_24 ?_
    refine g_iload_n 27 O dX5_actsBy_27 rfl 2 rfl ?_
    refine g_callV 28 O (na := 1) (av := [.int p0]) (c_X0_kindOf l E (sh a 25) (r_h E a (w, rds, sd, ad) pg sn s0 s1 s2 t (ik, iw, ir) ih it) h.1 h.2.1 h.2.2.1 h.2.2.2.1 h.2.2.2.2 p0 hr.1 p hh.1 hh.2.1 hp hp0) kl_X5_156 km_X0_kindOf kv_X0_kindOf ki_X0 kc_X0_kindOf (by decide +kernel) rfl (Nat.le_of_ble_eq_true rfl) (Nat.le_of_ble_eq_true rfl) (fun H9 h9 => to_h E a (w, rds, sd, ad) pg sn s0 s1 s2 h t (ik, iw, ir) ih it H9 h9) 0 rfl rfl (fun _ => ((w, rds, sd, ad), pg, sn, s0, s1, s2, h, t, (ik, iw, ir), ih, it)) (fun _ _ H9 hp h9 => by obtain ⟨-, rfl⟩ := hp; exact of_h E a (w, rds, sd, ad) pg sn s0 s1 s2 t (ik, iw, ir) ih it _ H9 h9) rfl (Nat.le_of_ble_eq_true rfl) dX5_actsBy_28 (fun v9 s9 hv9 => ?_)
    obtain ⟨rfl, rfl⟩ := hv9
    refine g_iconst 31 O (v := 4) dX5_actsBy_31 (by decide) ?_
    refine g_icmp_ne 32 O 40 dX5_actsBy_32 (by decide) (fun h32 => ?_) (fun h32 => ?_)
    · -- taken
      refine g_iload 40 O dX5_actsBy_40 0 rfl ?_
      refine g_if_ne 42 O 49 dX5_actsBy_42 (by decide) (fun h42 => ?_) (fun h42 => False.elim (absurd h42 (by decide)))
      refine g_iconst 49 O (v := 0) dX5_actsBy_49 (by decide) ?_
      exact g_zret (rfl) 50 O dX5_actsBy_50 (by have hk4 := (hh.2.2 p hp0).1.2; rw [hP0, ac, if_neg (fun e => h32 (by rw [(hh.2.2 p hp0).1.1, e]; rfl)), bi_1 h13]; exact ⟨rfl, rfl⟩)
    · -- not taken
      refine g_iload 35 O dX5_actsBy_35 0 rfl ?_
      refine g_goto 37 O 50 dX5_actsBy_37 (by decide) ?_
      exact g_zret (rfl) 50 O dX5_actsBy_50 (by have hk4 := (hh.2.2 p hp0).1.2; rw [hP0, ac, if_pos (by rw [(hh.2.2 p hp0).1.1] at h32; exact (nI_eq (b := 4) (by omega) (by decide)).mp h32), bi_1 h13]; exact ⟨rfl, rfl⟩)

set_option maxRecDepth 100000 in
set_option maxHeartbeats 4000000 in
theorem c_X5_actsNow (l : Launch) (E : Ev) (a : Nat → Nat) (w rds sd ad : Int32) (pg : Pc) (sn : Nat → Int32) (s0 s1 s2 : Sc) (h : Hc) (t : Tc) (ik iw ir : Int32) (ih : Hc) (it : Tc) (p0 : Int32) (z : Nat → Nat) (y : Sy) (hs : SyA s0 z y) (hr : Hr) (hh : HrW h hr) (p : Nat) (hp : p0 = nI p) (hp0 : p < hr.1) (wn : Nat) (hw : w = nI wn) (hw0 : wn < 64) : Ctr l yX5_actsNow cX5_actsNow 2 (some .boolean) 2 46 E (wX E a) [.ref (a 0), .int p0] (((w, rds, sd, ad), pg, sn, s0, s1, s2, h, t, (ik, iw, ir), ih, it)) (fun v8 s8 => v8 = some (.int (bi (decide (¬ y.1 = 0) && ac (hr.2.1 p) (TR z y (tk z y (hr.2.1 p))) wn))) ∧ s8 = ((w, rds, sd, ad), pg, sn, s0, s1, s2, h, t, (ik, iw, ir), ih, it)) := by
  refine Ctr.of' (by decide +kernel) (Nat.le_of_ble_eq_true rfl) (fun X P0 hP0 O => ?_)
  refine g_sub [0, 1] (lv' := [(0, .ref (a 0)), (1, .int p0)]) rfl ?_
  refine g_aload_n 0 O dX5_actsNow_0 rfl 0 rfl ?_
  refine g_get 1 O (v := .ref (a 4)) inX5 0 rfl rfl 2 (by decide) kf_X5_23 rfl dX5_actsNow_1 ?_
  refine g_callV 4 O (na := 0) (av := []) (c_X3_isNone l E (sh a 4) (r_s0 E a (w, rds, sd, ad) pg sn s1 s2 h t (ik, iw, ir) ih it) s0.1.1 s0.1.2.1 s0.1.2.2.1 s0.1.2.2.2.1 s0.1.2.2.2.2 s0.2.1 s0.2.2.1 s0.2.2.2.1 s0.2.2.2.2.1 s0.2.2.2.2.2.1 s0.2.2.2.2.2.2 ) kl_X5_121 km_X3_isNone kv_X3_isNone ki_X3 kc_X3_isNone (by decide +kernel) rfl (Nat.le_of_ble_eq_true rfl) (Nat.le_of_ble_eq_true rfl) (fun H9 h9 => to_s0 E a (w, rds, sd, ad) pg sn s0 s1 s2 h t (ik, iw, ir) ih it H9 h9) 0 rfl rfl (fun _ => ((w, rds, sd, ad), pg, sn, s0, s1, s2, h, t, (ik, iw, ir), ih, it)) (fun _ _ H9 hp h9 => by obtain ⟨-, rfl⟩ := hp; exact of_s0 E a (w, rds, sd, ad) pg sn s1 s2 h t (ik, iw, ir) ih it _ H9 h9) rfl (Nat.le_of_ble_eq_true rfl) dX5_actsNow_4 (fun v9 s9 hv9 => ?_)
  obtain ⟨rfl, rfl⟩ := hv9
  refine g_if_ne 7 O 31 dX5_actsNow_7 (by decide) (fun h7 => ?_) (fun h7 => ?_)
  · -- taken
    refine g_iconst 31 O (v := 0) dX5_actsNow_31 (by decide) ?_
    exact g_zret (rfl) 32 O dX5_actsNow_32 (by rw [hP0, decide_eq_false (fun q => q ((sy0 hs).mp (ite_t h7)))]; exact ⟨rfl, rfl⟩)
  · -- not taken
    have hy0 : ¬ y.1 = 0 := fun e => ite_f h7 ((sy0 hs).mpr e)
    have hN := NR_pos (y := y) (by omega)
    refine g_aload_n 10 O dX5_actsNow_10 rfl 0 rfl ?_
    refine g_iload_n 11 O dX5_actsNow_11 rfl 1 rfl ?_
    refine g_aload_n 12 O dX5_actsNow_12 rfl 0 rfl ?_
    refine g_iload_n 13 O dX5_actsNow_13 rfl 1 rfl ?_
    refine g_callV 14 O (na := 1) (av := [.int p0]) (c_X5_taken l E a w rds sd ad pg sn s0 s1 s2 h t ik iw ir ih it p0 z y hs hr hh p hp hp0) kl_X5_165 km_X5_taken kv_X5_taken ki_X5 kc_X5_taken (by decide +kernel) rfl (Nat.le_of_ble_eq_true rfl) (Nat.le_of_ble_eq_true rfl) (fun _ h => h) 0 rfl rfl (fun s => s) (fun _ _ _ _ h => h) rfl (Nat.le_of_ble_eq_true rfl) dX5_actsNow_14 (fun v9 s9 hv9 => ?_)
    obtain ⟨rfl, rfl⟩ := hv9
    refine g_si (nI (tk z y (hr.2.1 p))) (by rw [tkI, if_neg hy0]) ?_
    refine g_aload_n 17 O dX5_actsNow_17 rfl 0 rfl ?_
    refine g_get 18 O (v := .int w) inX5 0 rfl rfl 8 (by decide) kf_X5_124 rfl dX5_actsNow_18 ?_
    refine g_callV 21 O (na := 3) (av := [.int p0, .int (nI (tk z y (hr.2.1 p))), .int w]) (c_X5_actsBy l E a w rds sd ad pg sn s0 s1 s2 h t ik iw ir ih it p0 (nI (tk z y (hr.2.1 p))) w z y hs hr hh p hp hp0 (tk z y (hr.2.1 p)) rfl (tk_lt hN) wn hw hw0) kl_X5_297 km_X5_actsBy kv_X5_actsBy ki_X5 kc_X5_actsBy (by decide +kernel) rfl (Nat.le_of_ble_eq_true rfl) (Nat.le_of_ble_eq_true rfl) (fun _ h => h) 0 rfl rfl (fun s => s) (fun _ _ _ _ h => h) rfl (Nat.le_of_ble_eq_true rfl) dX5_actsNow_21 (fun v9 s9 hv9 => ?_)
    obtain ⟨rfl, rfl⟩ := hv9
    refine g_if_eq 24 O 31 dX5_actsNow_24 (by decide) (fun h24 => ?_) (fun h24 => ?_)
    · -- taken
      refine g_iconst 31 O (v := 0) dX5_actsNow_31 (by decide) ?_
      exact g_zret (rfl) 32 O dX5_actsNow_32 (by rw [hP0, decide_eq_true hy0, Bool.true_and, bi_f h24]; exact ⟨rfl, rfl⟩)
    · -- not taken
      refine g_iconst 27 O (v := 1) dX5_actsNow_27 (by decide) ?_
      refine g_goto 28 O 32 dX5_actsNow_28 (by decide) ?_
      exact g_zret (rfl) 32 O dX5_actsNow_32 (by rw [hP0, decide_eq_true hy0, Bool.true_and, bi_t h24]; exact ⟨rfl, rfl⟩)

set_option maxRecDepth 100000 in
set_option maxHeartbeats 4000000 in
theorem c_X5_behindAct (l : Launch) (E : Ev) (a : Nat → Nat) (w rds sd ad : Int32) (pg : Pc) (sn : Nat → Int32) (s0 s1 s2 : Sc) (h : Hc) (t : Tc) (ik iw ir : Int32) (ih : Hc) (it : Tc) (p0 p1 p2 : Int32) (z : Nat → Nat) (y : Sy) (hs : SyA s0 z y) (hr : Hr) (hh : HrW h hr) (p : Nat) (hp : p0 = nI p) (hp0 : p < hr.1) (r : Nat) (hq : p1 = nI r) (hr0 : r < NR y) (wn : Nat) (hw : p2 = nI wn) (hw0 : wn < 64) : Ctr l yX5_behindAct cX5_behindAct 4 (some .int) 2 46 E (wX E a) [.ref (a 0), .int p0, .int p1, .int p2] (((w, rds, sd, ad), pg, sn, s0, s1, s2, h, t, (ik, iw, ir), ih, it)) (fun v8 s8 => v8 = some (.int (nI (bh hr p (TR z y r) wn))) ∧ s8 = ((w, rds, sd, ad), pg, sn, s0, s1, s2, h, t, (ik, iw, ir), ih, it)) := by
  refine Ctr.of' (by decide +kernel) (Nat.le_of_ble_eq_true rfl) (fun X P0 hP0 O => ?_)
  refine g_sub [0, 1, 2, 3] (lv' := [(0, .ref (a 0)), (1, .int p0), (2, .int p1), (3, .int p2)]) rfl ?_
  refine g_aload_n 0 O dX5_behindAct_0 rfl 0 rfl ?_
  refine g_iload_n 1 O dX5_behindAct_1 rfl 1 rfl ?_
  refine g_iload_n 2 O dX5_behindAct_2 rfl 2 rfl ?_
  refine g_iload_n 3 O dX5_behindAct_3 rfl 3 rfl ?_
  refine g_callV 4 O (na := 3) (av := [.int p0, .int p1, .int p2]) (c_X5_actsBy l E a w rds sd ad pg sn s0 s1 s2 h t ik iw ir ih it p0 p1 p2 z y hs hr hh p hp hp0 r hq hr0 wn hw hw0) kl_X5_297 km_X5_actsBy kv_X5_actsBy ki_X5 kc_X5_actsBy (by decide +kernel) rfl (Nat.le_of_ble_eq_true rfl) (Nat.le_of_ble_eq_true rfl) (fun _ h => h) 0 rfl rfl (fun s => s) (fun _ _ _ _ h => h) rfl (Nat.le_of_ble_eq_true rfl) dX5_behindAct_4 (fun v9 s9 hv9 => ?_)
  obtain ⟨rfl, rfl⟩ := hv9
  refine g_if_ne 7 O 12 dX5_behindAct_7 (by decide) (fun h7 => ?_) (fun h7 => ?_)
  · -- taken
    refine g_iload_n 12 O dX5_behindAct_12 rfl 3 rfl ?_
    refine g_aload_n 13 O dX5_behindAct_13 rfl 0 rfl ?_
    refine g_get 14 O (v := .ref (a 25)) inX5 0 rfl rfl 5 (by decide) kf_X5_36 rfl dX5_behindAct_14 ?_
    refine g_iload_n 17 O dX5_behindAct_17 rfl 1 rfl ?_
    refine g_callV 18 O (na := 1) (av := [.int p0]) (c_X0_factOf l E (sh a 25) (r_h E a (w, rds, sd, ad) pg sn s0 s1 s2 t (ik, iw, ir) ih it) h.1 h.2.1 h.2.2.1 h.2.2.2.1 h.2.2.2.2 p0 hr.1 p hh.1 hh.2.1 hp hp0) kl_X5_159 km_X0_factOf kv_X0_factOf ki_X0 kc_X0_factOf (by decide +kernel) rfl (Nat.le_of_ble_eq_true rfl) (Nat.le_of_ble_eq_true rfl) (fun H9 h9 => to_h E a (w, rds, sd, ad) pg sn s0 s1 s2 h t (ik, iw, ir) ih it H9 h9) 0 rfl rfl (fun _ => ((w, rds, sd, ad), pg, sn, s0, s1, s2, h, t, (ik, iw, ir), ih, it)) (fun _ _ H9 hp h9 => by obtain ⟨-, rfl⟩ := hp; exact of_h E a (w, rds, sd, ad) pg sn s0 s1 s2 t (ik, iw, ir) ih it _ H9 h9) rfl (Nat.le_of_ble_eq_true rfl) dX5_behindAct_18 (fun v9 s9 hv9 => ?_)
    obtain ⟨rfl, rfl⟩ := hv9
    refine g_aload_n 21 O dX5_behindAct_21 rfl 0 rfl ?_
    refine g_get 22 O (v := .ref (a 25)) inX5 0 rfl rfl 5 (by decide) kf_X5_36 rfl dX5_behindAct_22 ?_
    refine g_iload_n 25 O dX5_behindAct_25 rfl 1 rfl ?_
    refine g_callV 26 O (na := 1) (av := [.int p0]) (c_X0_valueOf l E (sh a 25) (r_h E a (w, rds, sd, ad) pg sn s0 s1 s2 t (ik, iw, ir) ih it) h.1 h.2.1 h.2.2.1 h.2.2.2.1 h.2.2.2.2 p0 hr.1 p hh.1 hh.2.1 hp hp0) kl_X5_162 km_X0_valueOf kv_X0_valueOf ki_X0 kc_X0_valueOf (by decide +kernel) rfl (Nat.le_of_ble_eq_true rfl) (Nat.le_of_ble_eq_true rfl) (fun H9 h9 => to_h E a (w, rds, sd, ad) pg sn s0 s1 s2 h t (ik, iw, ir) ih it H9 h9) 0 rfl rfl (fun _ => ((w, rds, sd, ad), pg, sn, s0, s1, s2, h, t, (ik, iw, ir), ih, it)) (fun _ _ H9 hp h9 => by obtain ⟨-, rfl⟩ := hp; exact of_h E a (w, rds, sd, ad) pg sn s0 s1 s2 t (ik, iw, ir) ih it _ H9 h9) rfl (Nat.le_of_ble_eq_true rfl) dX5_behindAct_26 (fun v9 s9 hv9 => ?_)
    obtain ⟨rfl, rfl⟩ := hv9
    refine g_callS 29 O (na := 3) (av := [.int p2, .int (h.2.2.1 p), .int (h.2.2.2.1 p)]) (c_X5_withFact l E _ _ p2 (h.2.2.1 p) (h.2.2.2.1 p)) kl_X5_139 ks_X5_withFact ki_X5 kc_X5_withFact (by decide +kernel) rfl (Nat.le_of_ble_eq_true rfl) (Nat.le_of_ble_eq_true rfl) (fun _ h => h) (fun s => s) (fun _ _ _ _ h => h) rfl (Nat.le_of_ble_eq_true rfl) dX5_behindAct_29 (fun v9 s9 hv9 => ?_)
    obtain ⟨rfl, rfl⟩ := hv9
    refine g_si (nI (wN wn (hr.2.2.1 p) (hr.2.2.2.1 p))) (by rw [hw, (hh.2.2 p hp0).2.1.1, (hh.2.2 p hp0).2.2.1.1]; exact (wN_ok wn hw0 _ (hh.2.2 p hp0).2.1.2 _ (hh.2.2 p hp0).2.2.1.2).1) ?_
    exact g_iret 32 O dX5_behindAct_32 (by rw [hP0, bh, if_pos (bi_t h7)]; exact ⟨rfl, rfl⟩)
  · -- not taken
    refine g_iload_n 10 O dX5_behindAct_10 rfl 3 rfl ?_
    exact g_iret 11 O dX5_behindAct_11 (by rw [hP0, bh, if_neg (by rw [bi_f h7]; decide)]; exact ⟨by rw [hw], rfl⟩)

set_option maxRecDepth 100000 in
set_option maxHeartbeats 4000000 in
theorem c_X5_behindRound (l : Launch) (E : Ev) (a : Nat → Nat) (w rds sd ad : Int32) (pg : Pc) (sn : Nat → Int32) (s0 s1 s2 : Sc) (h : Hc) (t : Tc) (ik iw ir : Int32) (ih : Hc) (it : Tc) (p0 : Int32) (z : Nat → Nat) (y : Sy) (hs : SyA s0 z y) (hr : Hr) (hh : HrW h hr) (hy0 : ¬ y.1 = 0) (wn : Nat) (hw : p0 = nI wn) (hw0 : wn < 64) : Ctr l yX5_behindRound cX5_behindRound 4 (some .int) 3 69 E (wX E a) [.ref (a 0), .int p0] (((w, rds, sd, ad), pg, sn, s0, s1, s2, h, t, (ik, iw, ir), ih, it)) (fun v8 s8 => v8 = some (.int (nI (bR z y hr hr.1 wn))) ∧ s8 = ((w, rds, sd, ad), pg, sn, s0, s1, s2, h, t, (ik, iw, ir), ih, it)) := by
  refine Ctr.of' (by decide +kernel) (Nat.le_of_ble_eq_true rfl) (fun X P0 hP0 O => ?_)
  refine g_sub [0, 1] (lv' := [(0, .ref (a 0)), (1, .int p0)]) rfl ?_
  refine g_iload_n 0 O dX5_behindRound_0 rfl 1 rfl ?_
  refine g_si (nI wn) (hw) ?_
  refine g_istore_n 1 O (lv' := [(2, .int (nI wn)), (0, .ref (a 0)), (1, .int p0)]) dX5_behindRound_1 rfl (by decide) rfl ?_
  refine g_iconst 2 O (v := 0) dX5_behindRound_2 (by decide) ?_
  refine g_istore_n 3 O (lv' := [(3, .int 0), (2, .int (nI wn)), (0, .ref (a 0)), (1, .int p0)]) dX5_behindRound_3 rfl (by decide) rfl ?_
  refine g_sub [0, 1, 2] (lv' := [(3, .int 0), (2, .int (nI wn)), (0, .ref (a 0))]) rfl ?_
  have L4 : ∀ (fuel : Nat) (i : Nat) (hi : i ≤ hr.1), hr.1 - i < fuel → G l E (wX E a) P0 X 4 (((w, rds, sd, ad), pg, sn, s0, s1, s2, h, t, (ik, iw, ir), ih, it)) 4 [(3, .int (nI i)), (2, .int (nI (bR z y hr i wn))), (0, .ref (a 0))] [] := by
    intro fuel
    induction fuel with
    | zero => intro i hi hfu; exact absurd hfu (Nat.not_lt_zero _)
    | succ fuel ih4 =>
      intro i hi hfu
      have hh4 := hh.2.1
      refine g_iload_n 4 O dX5_behindRound_4 rfl 0 rfl ?_
      refine g_aload_n 5 O dX5_behindRound_5 rfl 2 rfl ?_
      refine g_get 6 O (v := .ref (a 25)) inX5 0 rfl rfl 5 (by decide) kf_X5_36 rfl dX5_behindRound_6 ?_
      refine g_getN 9 O (v := .int h.1) inX0 25 rfl rfl 4 (by decide) (fun _ h => h.2.2.2.2.2.2.2.1) rfl dX5_behindRound_9 ?_
      refine g_icmp_ge 12 O 33 dX5_behindRound_12 (by decide) (fun h12 => ?_) (fun h12 => ?_)
      · -- taken
        have e : i = hr.1 := by rw [hh.1] at h12; have := ge_of_le (by omega) (by omega) h12; omega
        subst e
        refine g_iload_n 33 O dX5_behindRound_33 rfl 1 rfl ?_
        exact g_iret 34 O dX5_behindRound_34 (by rw [hP0]; exact ⟨rfl, rfl⟩)
      · -- not taken
        have hlt : i < hr.1 := by rw [hh.1] at h12; exact lt_of_nge (by omega) h12
        refine g_aload_n 15 O dX5_behindRound_15 rfl 2 rfl ?_
        refine g_iload_n 16 O dX5_behindRound_16 rfl 0 rfl ?_
        refine g_aload_n 17 O dX5_behindRound_17 rfl 2 rfl ?_
        refine g_iload_n 18 O dX5_behindRound_18 rfl 0 rfl ?_
        refine g_callV 19 O (na := 1) (av := [.int (nI i)]) (c_X5_taken l E a w rds sd ad pg sn s0 s1 s2 h t ik iw ir ih it (nI i) z y hs hr hh i rfl hlt) kl_X5_165 km_X5_taken kv_X5_taken ki_X5 kc_X5_taken (by decide +kernel) rfl (Nat.le_of_ble_eq_true rfl) (Nat.le_of_ble_eq_true rfl) (fun _ h => h) 0 rfl rfl (fun s => s) (fun _ _ _ _ h => h) rfl (Nat.le_of_ble_eq_true rfl) dX5_behindRound_19 (fun v9 s9 hv9 => ?_)
        obtain ⟨rfl, rfl⟩ := hv9
        refine g_si (nI (tk z y (hr.2.1 i))) (by rw [tkI, if_neg hy0]) ?_
        refine g_iload_n 22 O dX5_behindRound_22 rfl 1 rfl ?_
        refine g_callV 23 O (na := 3) (av := [.int (nI i), .int (nI (tk z y (hr.2.1 i))), .int (nI (bR z y hr i wn))]) (c_X5_behindAct l E a w rds sd ad pg sn s0 s1 s2 h t ik iw ir ih it (nI i) (nI (tk z y (hr.2.1 i))) (nI (bR z y hr i wn)) z y hs hr hh i rfl hlt (tk z y (hr.2.1 i)) rfl (tk_lt (NR_pos (by omega))) (bR z y hr i wn) rfl (bR_lt hh hw0 (by omega))) kl_X5_300 km_X5_behindAct kv_X5_behindAct ki_X5 kc_X5_behindAct (by decide +kernel) rfl (Nat.le_of_ble_eq_true rfl) (Nat.le_of_ble_eq_true rfl) (fun _ h => h) 0 rfl rfl (fun s => s) (fun _ _ _ _ h => h) rfl (Nat.le_of_ble_eq_true rfl) dX5_behindRound_23 (fun v9 s9 hv9 => ?_)
        obtain ⟨rfl, rfl⟩ := hv9
        refine g_si (nI (bR z y hr (i + 1) wn)) (rfl) ?_
        refine g_istore_n 26 O (lv' := [(2, .int (nI (bR z y hr (i + 1) wn))), (3, .int (nI i)), (0, .ref (a 0))]) dX5_behindRound_26 rfl (by decide) rfl ?_
        refine g_iinc 27 O (v := nI (i + 1)) (q := 1) (lv' := [(3, .int (nI (i + 1))), (2, .int (nI (bR z y hr (i + 1) wn))), (0, .ref (a 0))]) dX5_behindRound_27 rfl (nI_1 i) (by decide) rfl ?_
        refine g_goto 30 O 4 dX5_behindRound_30 (by decide) ?_
        refine g_sub [0, 1, 2] (lv' := [(3, .int (nI (i + 1))), (2, .int (nI (bR z y hr (i + 1) wn))), (0, .ref (a 0))]) rfl ?_
        exact ih4 (i + 1) (by omega) (by omega)
  exact L4 _ 0 (Nat.zero_le _) (Nat.lt_succ_self _)

set_option maxRecDepth 100000 in
set_option maxHeartbeats 4000000 in
theorem c_X5_letAct (l : Launch) (E : Ev) (a : Nat → Nat) (w rds sd ad : Int32) (pg : Pc) (sn : Nat → Int32) (s0 s1 s2 : Sc) (h : Hc) (t : Tc) (ik iw ir : Int32) (ih : Hc) (it : Tc) (p0 : Int32) (z : Nat → Nat) (y : Sy) (hs : SyA s0 z y) (hr : Hr) (hh : HrW h hr) (hy0 : ¬ y.1 = 0) (p : Nat) (hp : p0 = nI p) (hp0 : p < hr.1) (wn : Nat) (hw : w = nI wn) (hw0 : wn < 64) : Ctr l yX5_letAct cX5_letAct 3 none 3 69 E (wX E a) [.ref (a 0), .int p0] (((w, rds, sd, ad), pg, sn, s0, s1, s2, h, t, (ik, iw, ir), ih, it)) (pV (fun x => ∃ h' : Hc, x = ((nI (aw z y hr p wn), rds, sd, ad), pg, sn, s0, s1, s2, h', t, (ik, iw, ir), ih, it) ∧ HrW h' (hr.1, hr.2.1, hr.2.2.1, hr.2.2.2.1, ach z y hr p wn hr.2.2.2.2))) := by
  refine Ctr.of' (by decide +kernel) (Nat.le_of_ble_eq_true rfl) (fun X P0 hP0 O => ?_)
  refine g_sub [0, 1] (lv' := [(0, .ref (a 0)), (1, .int p0)]) rfl ?_
  refine g_aload_n 0 O dX5_letAct_0 rfl 0 rfl ?_
  refine g_iload_n 1 O dX5_letAct_1 rfl 1 rfl ?_
  refine g_aload_n 2 O dX5_letAct_2 rfl 0 rfl ?_
  refine g_iload_n 3 O dX5_letAct_3 rfl 1 rfl ?_
  refine g_callV 4 O (na := 1) (av := [.int p0]) (c_X5_taken l E a w rds sd ad pg sn s0 s1 s2 h t ik iw ir ih it p0 z y hs hr hh p hp hp0) kl_X5_165 km_X5_taken kv_X5_taken ki_X5 kc_X5_taken (by decide +kernel) rfl (Nat.le_of_ble_eq_true rfl) (Nat.le_of_ble_eq_true rfl) (fun _ h => h) 0 rfl rfl (fun s => s) (fun _ _ _ _ h => h) rfl (Nat.le_of_ble_eq_true rfl) dX5_letAct_4 (fun v9 s9 hv9 => ?_)
  obtain ⟨rfl, rfl⟩ := hv9
  refine g_si (nI (tk z y (hr.2.1 p))) (by rw [tkI, if_neg hy0]) ?_
  have hN := NR_pos (y := y) (by omega)
  refine g_aload_n 7 O dX5_letAct_7 rfl 0 rfl ?_
  refine g_get 8 O (v := .int w) inX5 0 rfl rfl 8 (by decide) kf_X5_124 rfl dX5_letAct_8 ?_
  refine g_callV 11 O (na := 3) (av := [.int p0, .int (nI (tk z y (hr.2.1 p))), .int w]) (c_X5_behindAct l E a w rds sd ad pg sn s0 s1 s2 h t ik iw ir ih it p0 (nI (tk z y (hr.2.1 p))) w z y hs hr hh p hp hp0 (tk z y (hr.2.1 p)) rfl (tk_lt hN) wn hw hw0) kl_X5_300 km_X5_behindAct kv_X5_behindAct ki_X5 kc_X5_behindAct (by decide +kernel) rfl (Nat.le_of_ble_eq_true rfl) (Nat.le_of_ble_eq_true rfl) (fun _ h => h) 0 rfl rfl (fun s => s) (fun _ _ _ _ h => h) rfl (Nat.le_of_ble_eq_true rfl) dX5_letAct_11 (fun v9 s9 hv9 => ?_)
  obtain ⟨rfl, rfl⟩ := hv9
  refine g_si (nI (aw z y hr p wn)) (rfl) ?_
  have haw : aw z y hr p wn < 64 := bh_lt hh hp0 _ hw0
  refine g_istore_n 14 O (lv' := [(2, .int (nI (aw z y hr p wn))), (0, .ref (a 0)), (1, .int p0)]) dX5_letAct_14 rfl (by decide) rfl ?_
  refine g_iload_n 15 O dX5_letAct_15 rfl 0 rfl ?_
  refine g_aload_n 16 O dX5_letAct_16 rfl 1 rfl ?_
  refine g_get 17 O (v := .int w) inX5 0 rfl rfl 8 (by decide) kf_X5_124 rfl dX5_letAct_17 ?_
  refine g_icmp_eq 20 O 31 dX5_letAct_20 (by decide) (fun h20 => ?_) (fun h20 => ?_)
  · -- taken
    refine g_aload_n 31 O dX5_letAct_31 rfl 1 rfl ?_
    refine g_iload_n 32 O dX5_letAct_32 rfl 0 rfl ?_
    refine g_put 33 O inX5 tyX5_ok nmX5 (((nI (aw z y hr p wn), rds, sd, ad), pg, sn, s0, s1, s2, h, t, (ik, iw, ir), ih, it)) 0 rfl rfl 8 (by decide) kf_X5_124 rfl (rfl) (rfl) (Nat.le_of_ble_eq_true rfl) rfl dX5_letAct_33 ?_
    exact g_vret 36 O dX5_letAct_36 (by rw [hP0]; refine ⟨rfl, h, rfl, ?_⟩; rw [ach, if_pos ((nI_eq (by have := haw; omega) (by omega)).mp (h20.trans hw))]; exact hh)
  · -- not taken
    refine g_aload_n 23 O dX5_letAct_23 rfl 1 rfl ?_
    refine g_get 24 O (v := .ref (a 25)) inX5 0 rfl rfl 5 (by decide) kf_X5_36 rfl dX5_letAct_24 ?_
    refine g_iload_n 27 O dX5_letAct_27 rfl 2 rfl ?_
    refine g_callV 28 O (na := 1) (av := [.int p0]) (c_X0_countChange l E (sh a 25) (r_h E a (w, rds, sd, ad) pg sn s0 s1 s2 t (ik, iw, ir) ih it) h.1 h.2.1 h.2.2.1 h.2.2.2.1 h.2.2.2.2 p0 hr.1 p hh.1 hh.2.1 hp hp0) kl_X5_303 km_X0_countChange kv_X0_countChange ki_X0 kc_X0_countChange (by decide +kernel) rfl (Nat.le_of_ble_eq_true rfl) (Nat.le_of_ble_eq_true rfl) (fun H9 h9 => to_h E a (w, rds, sd, ad) pg sn s0 s1 s2 h t (ik, iw, ir) ih it H9 h9) 0 rfl rfl (fun s9q => ((w, rds, sd, ad), pg, sn, s0, s1, s2, s9q, t, (ik, iw, ir), ih, it)) (fun _ s9q H9 _ h9 => of_h E a (w, rds, sd, ad) pg sn s0 s1 s2 t (ik, iw, ir) ih it s9q H9 h9) rfl (Nat.le_of_ble_eq_true rfl) dX5_letAct_28 (fun v9 s9 hv9 => ?_)
    obtain ⟨rfl, rfl⟩ := hv9
    refine g_aload_n 31 O dX5_letAct_31 rfl 1 rfl ?_
    refine g_iload_n 32 O dX5_letAct_32 rfl 0 rfl ?_
    refine g_put 33 O inX5 tyX5_ok nmX5 (((nI (aw z y hr p wn), rds, sd, ad), pg, sn, s0, s1, s2, (h.1, h.2.1, h.2.2.1, h.2.2.2.1, upd h.2.2.2.2 p (h.2.2.2.2 p + 1)), t, (ik, iw, ir), ih, it)) 0 rfl rfl 8 (by decide) kf_X5_124 rfl (rfl) (rfl) (Nat.le_of_ble_eq_true rfl) rfl dX5_letAct_33 ?_
    exact g_vret 36 O dX5_letAct_36 (by rw [hP0]; refine ⟨rfl, _, rfl, ?_⟩; rw [ach, if_neg (fun e => h20 (by rw [e, hw]))]; exact HrW_ch hh p hp0)
