set_option maxRecDepth 100000 in
set_option maxHeartbeats 4000000 in
theorem c_X3_isNone (l : Launch) (E : Ev) (a : Nat → Nat) (R : va_W) (wd rd wi na : Int32) (so : Int64) (lt ng pl : Nat → Int32) (t1 t2 tr : Nat → Int64)  : Ctr l yX3_isNone cX3_isNone 1 (some .boolean) 0 0 E (fun s => wS E a s ++ R) [.ref (a 0)] (((wd, rd, wi, na, so), lt, ng, pl, t1, t2, tr)) (fun v s => v = some (.int (if wd = 0 then 1 else 0)) ∧ s = ((wd, rd, wi, na, so), lt, ng, pl, t1, t2, tr)) := by
  refine Ctr.of' (by decide +kernel) (Nat.le_of_ble_eq_true rfl) (fun X P0 hP0 O => ?_)
  refine g_sub [0] (lv' := [(0, .ref (a 0))]) rfl ?_
  refine g_aload_n 0 O dX3_isNone_0 rfl 0 rfl ?_
  refine g_get 1 O (v := .int wd) inX3 0 rfl rfl 6 (by decide) kf_X3_32 rfl dX3_isNone_1 ?_
  refine g_if_ne 4 O 11 dX3_isNone_4 (by decide) (fun h4 => ?_) (fun h4 => ?_)
  · -- taken
    refine g_iconst 11 O (v := 0) dX3_isNone_11 (by decide) ?_
    exact g_zret (rfl) 12 O dX3_isNone_12 (by rw [hP0]; exact ⟨by rw [if_neg (h4)], rfl⟩)
  · -- not taken
    refine g_iconst 7 O (v := 1) dX3_isNone_7 (by decide) ?_
    refine g_goto 8 O 12 dX3_isNone_8 (by decide) ?_
    exact g_zret (rfl) 12 O dX3_isNone_12 (by rw [hP0]; exact ⟨by rw [if_pos (h4)], rfl⟩)

set_option maxRecDepth 100000 in
set_option maxHeartbeats 4000000 in
theorem c_X3_hasReading (l : Launch) (E : Ev) (a : Nat → Nat) (R : va_W) (wd rd wi na : Int32) (so : Int64) (lt ng pl : Nat → Int32) (t1 t2 tr : Nat → Int64) (p0 : Int32)  : Ctr l yX3_hasReading cX3_hasReading 2 (some .boolean) 0 0 E (fun s => wS E a s ++ R) [.ref (a 0), .int p0] (((wd, rd, wi, na, so), lt, ng, pl, t1, t2, tr)) (fun v s => v = some (.int (if 0 ≤ p0 ∧ p0 < rd then 1 else 0)) ∧ s = ((wd, rd, wi, na, so), lt, ng, pl, t1, t2, tr)) := by
  refine Ctr.of' (by decide +kernel) (Nat.le_of_ble_eq_true rfl) (fun X P0 hP0 O => ?_)
  refine g_sub [0, 1] (lv' := [(0, .ref (a 0)), (1, .int p0)]) rfl ?_
  refine g_iload_n 0 O dX3_hasReading_0 rfl 1 rfl ?_
  refine g_if_lt 1 O 16 dX3_hasReading_1 (by decide) (fun h1 => ?_) (fun h1 => ?_)
  · -- taken
    refine g_iconst 16 O (v := 0) dX3_hasReading_16 (by decide) ?_
    exact g_zret (rfl) 17 O dX3_hasReading_17 (by rw [hP0]; exact ⟨by rw [if_neg (fun q => Int32.not_le.mpr h1 q.1)], rfl⟩)
  · -- not taken
    refine g_iload_n 4 O dX3_hasReading_4 rfl 1 rfl ?_
    refine g_aload_n 5 O dX3_hasReading_5 rfl 0 rfl ?_
    refine g_get 6 O (v := .int rd) inX3 0 rfl rfl 7 (by decide) kf_X3_36 rfl dX3_hasReading_6 ?_
    refine g_icmp_ge 9 O 16 dX3_hasReading_9 (by decide) (fun h9 => ?_) (fun h9 => ?_)
    · -- taken
      refine g_iconst 16 O (v := 0) dX3_hasReading_16 (by decide) ?_
      exact g_zret (rfl) 17 O dX3_hasReading_17 (by rw [hP0]; exact ⟨by rw [if_neg (fun q => Int32.not_lt.mpr h9 q.2)], rfl⟩)
    · -- not taken
      refine g_iconst 12 O (v := 1) dX3_hasReading_12 (by decide) ?_
      refine g_goto 13 O 17 dX3_hasReading_13 (by decide) ?_
      exact g_zret (rfl) 17 O dX3_hasReading_17 (by rw [hP0]; exact ⟨by rw [if_pos (⟨Int32.not_lt.mp h1, Int32.not_le.mp h9⟩)], rfl⟩)

set_option maxRecDepth 100000 in
set_option maxHeartbeats 4000000 in
theorem c_X3_append (l : Launch) (E : Ev) (a : Nat → Nat) (R : va_W) (wd rd wi na : Int32) (so : Int64) (lt ng pl : Nat → Int32) (t1 t2 tr : Nat → Int64) (p0 p1 p2 : Int32) (N : Nat) (hwd : wd = nI N) (hN : N < 4) (hb0 : vp_nar .boolean p0 = p0) (hb1 : vp_nar .boolean p1 = p1) : Ctr l yX3_append cX3_append 4 none 0 0 E (fun s => wS E a s ++ R) [.ref (a 0), .int p0, .int p1, .int p2] (((wd, rd, wi, na, so), lt, ng, pl, t1, t2, tr)) (fun v s => v = none ∧ s = ((nI (N + 1), rd, wi, na, so), upd lt N p2, upd ng N p1, upd pl N p0, t1, t2, tr)) := by
  refine Ctr.of' (by decide +kernel) (Nat.le_of_ble_eq_true rfl) (fun X P0 hP0 O => ?_)
  refine g_sub [0, 1, 2, 3] (lv' := [(0, .ref (a 0)), (1, .int p0), (2, .int p1), (3, .int p2)]) rfl ?_
  refine g_aload_n 0 O dX3_append_0 rfl 0 rfl ?_
  refine g_get 1 O (v := .int wd) inX3 0 rfl rfl 6 (by decide) kf_X3_32 rfl dX3_append_1 ?_
  refine g_if_lt 4 O 15 dX3_append_4 (by decide) (fun h4 => False.elim (absurd h4 (by rw [hwd]; exact nI_pos (by omega)))) (fun h4 => ?_)
  refine g_aload_n 7 O dX3_append_7 rfl 0 rfl ?_
  refine g_get 8 O (v := .int wd) inX3 0 rfl rfl 6 (by decide) kf_X3_32 rfl dX3_append_8 ?_
  refine g_iconst 11 O (v := 4) dX3_append_11 (by decide) ?_
  refine g_icmp_lt 12 O 16 dX3_append_12 (by decide) (fun h12 => ?_) (fun h12 => False.elim (h12 (by rw [hwd]; exact nI_lt (b := 4) hN (by decide))))
  refine g_aload_n 16 O dX3_append_16 rfl 0 rfl ?_
  refine g_get 17 O (v := .ref (a 3)) inX3 0 rfl rfl 2 (by decide) kf_X3_19 rfl dX3_append_17 ?_
  refine g_aload_n 20 O dX3_append_20 rfl 0 rfl ?_
  refine g_get 21 O (v := .int wd) inX3 0 rfl rfl 6 (by decide) kf_X3_32 rfl dX3_append_21 ?_
  refine g_iload_n 24 O dX3_append_24 rfl 1 rfl ?_
  refine g_zast 25 O (((wd, rd, wi, na, so), lt, ng, upd pl N p0, t1, t2, tr)) 3 N rfl (hwd) (hN) (by decide) (hb0) rfl dX3_append_25 ?_
  refine g_aload_n 26 O dX3_append_26 rfl 0 rfl ?_
  refine g_get 27 O (v := .ref (a 2)) inX3 0 rfl rfl 1 (by decide) kf_X3_15 rfl dX3_append_27 ?_
  refine g_aload_n 30 O dX3_append_30 rfl 0 rfl ?_
  refine g_get 31 O (v := .int wd) inX3 0 rfl rfl 6 (by decide) kf_X3_32 rfl dX3_append_31 ?_
  refine g_iload_n 34 O dX3_append_34 rfl 2 rfl ?_
  refine g_zast 35 O (((wd, rd, wi, na, so), lt, upd ng N p1, upd pl N p0, t1, t2, tr)) 2 N rfl (hwd) (hN) (by decide) (hb1) rfl dX3_append_35 ?_
  refine g_aload_n 36 O dX3_append_36 rfl 0 rfl ?_
  refine g_get 37 O (v := .ref (a 1)) inX3 0 rfl rfl 0 (by decide) kf_X3_9 rfl dX3_append_37 ?_
  refine g_aload_n 40 O dX3_append_40 rfl 0 rfl ?_
  refine g_get 41 O (v := .int wd) inX3 0 rfl rfl 6 (by decide) kf_X3_32 rfl dX3_append_41 ?_
  refine g_iload_n 44 O dX3_append_44 rfl 3 rfl ?_
  refine g_iast 45 O (((wd, rd, wi, na, so), upd lt N p2, upd ng N p1, upd pl N p0, t1, t2, tr)) 1 N rfl (hwd) (hN) (by decide) rfl dX3_append_45 ?_
  refine g_aload_n 46 O dX3_append_46 rfl 0 rfl ?_
  refine g_dup 47 O dX3_append_47 rfl ?_
  refine g_get 48 O (v := .int wd) inX3 0 rfl rfl 6 (by decide) kf_X3_32 rfl dX3_append_48 ?_
  refine g_iconst 51 O (v := 1) dX3_append_51 (by decide) ?_
  refine g_iadd 52 O dX3_append_52 ?_
  refine g_si (nI (N + 1)) (by rw [hwd]; exact nI_1 N) ?_
  refine g_put 53 O inX3 tyX3_ok nmX3 (((nI (N + 1), rd, wi, na, so), upd lt N p2, upd ng N p1, upd pl N p0, t1, t2, tr)) 0 rfl rfl 6 (by decide) kf_X3_32 rfl (rfl) (rfl) (Nat.le_of_ble_eq_true rfl) rfl dX3_append_53 ?_
  exact g_vret 56 O dX3_append_56 (by rw [hP0]; exact ⟨rfl, rfl⟩)

set_option maxRecDepth 100000 in
set_option maxHeartbeats 4000000 in
theorem c_X3_become (l : Launch) (E : Ev) (a b : Nat → Nat) (R : va_W) (m : Sc) (wd rd wi na : Int32) (so : Int64) (lt ng pl : Nat → Int32) (t1 t2 tr : Nat → Int64) (y : Sy) (hm : SyW m.1.1 m.2.1 m.2.2.1 m.2.2.2.1 y) : Ctr l yX3_become cX3_become 3 none 1 23 E (fun s => wS E a s ++ (wS E b m ++ R)) [.ref (a 0), .ref (b 0)] (((wd, rd, wi, na, so), lt, ng, pl, t1, t2, tr)) (pV (fun s => ∃ lt' ng' pl' : Nat → Int32, s = ((nI y.1, rd, wi, na, so), lt', ng', pl', t1, t2, tr) ∧ SyW (nI y.1) lt' ng' pl' y)) := by
  refine Ctr.of' (by decide +kernel) (Nat.le_of_ble_eq_true rfl) (fun X P0 hP0 O => ?_)
  refine g_sub [0, 1] (lv' := [(0, .ref (a 0)), (1, .ref (b 0))]) rfl ?_
  refine g_aload_n 0 O dX3_become_0 rfl 0 rfl ?_
  refine g_iconst 1 O (v := 0) dX3_become_1 (by decide) ?_
  refine g_put 2 O inX3 tyX3_ok nmX3 (((0, rd, wi, na, so), lt, ng, pl, t1, t2, tr)) 0 rfl rfl 6 (by decide) kf_X3_32 rfl (rfl) (rfl) (Nat.le_of_ble_eq_true rfl) rfl dX3_become_2 ?_
  refine g_iconst 5 O (v := 0) dX3_become_5 (by decide) ?_
  refine g_istore_n 6 O (lv' := [(2, .int 0), (0, .ref (a 0)), (1, .ref (b 0))]) dX3_become_6 rfl (by decide) rfl ?_
  refine g_sub [0, 1, 2] (lv' := [(2, .int 0), (0, .ref (a 0)), (1, .ref (b 0))]) rfl ?_
  have L7 : ∀ (fuel : Nat) (i : Nat) (lt' ng' pl' : Nat → Int32) (hi : i ≤ y.1) (hk : ∀ k, k < i → RW lt' ng' pl' y k), y.1 - i < fuel → G l E (fun s => wS E a s ++ (wS E b m ++ R)) P0 X 3 (((nI i, rd, wi, na, so), lt', ng', pl', t1, t2, tr)) 7 [(2, .int (nI i)), (0, .ref (a 0)), (1, .ref (b 0))] [] := by
    intro fuel
    induction fuel with
    | zero => intro i lt' ng' pl' hi hk hfu; exact absurd hfu (Nat.not_lt_zero _)
    | succ fuel ih7 =>
      intro i lt' ng' pl' hi hk hfu
      have hy4 := hm.2.1
      refine g_iload_n 7 O dX3_become_7 rfl 0 rfl ?_
      refine g_aload_n 8 O dX3_become_8 rfl 2 rfl ?_
      refine g_get 9 O (v := .int m.1.1) inX3 7 rfl rfl 6 (by decide) kf_X3_32 rfl dX3_become_9 ?_
      refine g_icmp_ge 12 O 48 dX3_become_12 (by decide) (fun h12 => ?_) (fun h12 => ?_)
      · -- taken
        have e : i = y.1 := by rw [hm.1] at h12; have := ge_of_le (by omega) (by omega) h12; omega
        subst e
        exact g_vret 48 O dX3_become_48 (by rw [hP0]; exact ⟨rfl, lt', ng', pl', rfl, rfl, hm.2.1, hk⟩)
      · -- not taken
        have hlt : i < y.1 := by rw [hm.1] at h12; exact lt_of_nge (by omega) h12
        refine g_iload_n 15 O dX3_become_15 rfl 0 rfl ?_
        refine g_iconst 16 O (v := 4) dX3_become_16 (by decide) ?_
        refine g_icmp_ge 17 O 48 dX3_become_17 (by decide) (fun h17 => False.elim (absurd h17 (nI_ge (b := 4) (by omega) (by decide)))) (fun h17 => ?_)
        refine g_aload_n 20 O dX3_become_20 rfl 1 rfl ?_
        refine g_aload_n 21 O dX3_become_21 rfl 2 rfl ?_
        refine g_get 22 O (v := .ref (b 3)) inX3 7 rfl rfl 2 (by decide) kf_X3_19 rfl dX3_become_22 ?_
        refine g_iload_n 25 O dX3_become_25 rfl 0 rfl ?_
        refine g_zald 26 O 10 i rfl (rfl) (by omega) (by decide) dX3_become_26 ?_
        refine g_aload_n 27 O dX3_become_27 rfl 2 rfl ?_
        refine g_get 28 O (v := .ref (b 2)) inX3 7 rfl rfl 1 (by decide) kf_X3_15 rfl dX3_become_28 ?_
        refine g_iload_n 31 O dX3_become_31 rfl 0 rfl ?_
        refine g_zald 32 O 9 i rfl (rfl) (by omega) (by decide) dX3_become_32 ?_
        refine g_aload_n 33 O dX3_become_33 rfl 2 rfl ?_
        refine g_get 34 O (v := .ref (b 1)) inX3 7 rfl rfl 0 (by decide) kf_X3_9 rfl dX3_become_34 ?_
        refine g_iload_n 37 O dX3_become_37 rfl 0 rfl ?_
        refine g_iald 38 O 8 i rfl (rfl) (by omega) (by decide) dX3_become_38 ?_
        refine g_callV 39 O (na := 3) (av := [.int (m.2.2.2.1 i), .int (m.2.2.1 i), .int (m.2.1 i)]) (c_X3_append l E a (wS E b m ++ R) (nI i) rd wi na so lt' ng' pl' t1 t2 tr (m.2.2.2.1 i) (m.2.2.1 i) (m.2.1 i) i rfl (by omega) (nar_eq (hm.2.2 i hlt).2.2.2) (nar_eq (hm.2.2 i hlt).2.2.1)) kl_X3_52 km_X3_append kv_X3_append ki_X3 kc_X3_append (by decide +kernel) rfl (Nat.le_of_ble_eq_true rfl) (Nat.le_of_ble_eq_true rfl) (fun _ h => h) 0 rfl rfl (fun s => s) (fun _ _ _ _ h => h) rfl (Nat.le_of_ble_eq_true rfl) dX3_become_39 (fun v9 s9 hv9 => ?_)
        obtain ⟨rfl, rfl⟩ := hv9
        refine g_iinc 42 O (v := nI (i + 1)) (q := 0) (lv' := [(2, .int (nI (i + 1))), (0, .ref (a 0)), (1, .ref (b 0))]) dX3_become_42 rfl (nI_1 i) (by decide) rfl ?_
        refine g_goto 45 O 7 dX3_become_45 (by decide) ?_
        refine g_sub [0, 1, 2] (lv' := [(2, .int (nI (i + 1))), (0, .ref (a 0)), (1, .ref (b 0))]) rfl ?_
        exact ih7 (i + 1) (upd lt' i (m.2.1 i)) (upd ng' i (m.2.2.1 i)) (upd pl' i (m.2.2.2.1 i)) (by omega) (fun k h => by
            rcases Nat.lt_or_ge k i with q | q
            · have n : ¬ k = i := by omega
              obtain ⟨a1, a2, a3, a4⟩ := hk k q
              exact ⟨by rw [upd_n _ _ n]; exact a1, a2, by rw [upd_n _ _ n]; exact a3, by rw [upd_n _ _ n]; exact a4⟩
            · have e : k = i := by omega
              subst e
              obtain ⟨a1, a2, a3, a4⟩ := hm.2.2 k hlt
              exact ⟨by rw [upd_s]; exact a1, a2, by rw [upd_s]; exact a3, by rw [upd_s]; exact a4⟩) (by omega)
  exact L7 _ 0 lt ng pl (Nat.zero_le _) (fun k h => absurd h (Nat.not_lt_zero _)) (Nat.lt_succ_self _)

set_option maxRecDepth 100000 in
set_option maxHeartbeats 4000000 in
theorem c_X3_read (l : Launch) (E : Ev) (a b : Nat → Nat) (R : va_W) (le : Int32) (cs : Nat → Int32) (wd rd wi na : Int32) (so : Int64) (lt ng pl : Nat → Int32) (t1 t2 tr : Nat → Int64) (N : Nat) (hle : le = nI N) (hN : N ≤ 14) (hS : isSay cs N = true) : Ctr l yX3_read cX3_read 6 none 1 23 E (fun s => wS E a s ++ (wP E b (le, cs) ++ R)) [.ref (a 0), .ref (b 0)] (((wd, rd, wi, na, so), lt, ng, pl, t1, t2, tr)) (pV (fun s => ∃ lt' ng' pl' : Nat → Int32, s = ((nI (pr cs N).2.1, rd, wi, na, so), lt', ng', pl', t1, t2, tr) ∧ SyW (nI (pr cs N).2.1) lt' ng' pl' (pr cs N).2)) := by
  refine Ctr.of' (by decide +kernel) (Nat.le_of_ble_eq_true rfl) (fun X P0 hP0 O => ?_)
  refine g_sub [0, 1] (lv' := [(0, .ref (a 0)), (1, .ref (b 0))]) rfl ?_
  refine g_aload_n 0 O dX3_read_0 rfl 0 rfl ?_
  refine g_iconst 1 O (v := 0) dX3_read_1 (by decide) ?_
  refine g_put 2 O inX3 tyX3_ok nmX3 (((0, rd, wi, na, so), lt, ng, pl, t1, t2, tr)) 0 rfl rfl 6 (by decide) kf_X3_32 rfl (rfl) (rfl) (Nat.le_of_ble_eq_true rfl) rfl dX3_read_2 ?_
  refine g_iconst 5 O (v := 0) dX3_read_5 (by decide) ?_
  refine g_istore_n 6 O (lv' := [(2, .int 0), (0, .ref (a 0)), (1, .ref (b 0))]) dX3_read_6 rfl (by decide) rfl ?_
  refine g_iconst 7 O (v := 0) dX3_read_7 (by decide) ?_
  refine g_istore_n 8 O (lv' := [(3, .int 0), (2, .int 0), (0, .ref (a 0)), (1, .ref (b 0))]) dX3_read_8 rfl (by decide) rfl ?_
  refine g_iconst 9 O (v := 0) dX3_read_9 (by decide) ?_
  refine g_istore 10 O (lv' := [(4, .int 0), (3, .int 0), (2, .int 0), (0, .ref (a 0)), (1, .ref (b 0))]) dX3_read_10 (by decide) rfl ?_
  refine g_sub [0, 1, 2, 3, 4] (lv' := [(4, .int 0), (3, .int 0), (2, .int 0), (0, .ref (a 0)), (1, .ref (b 0))]) rfl ?_
  have L12 : ∀ (fuel : Nat) (k st nw : Nat) (pv nv : Int32) (lt' ng' pl' : Nat → Int32) (hk : k ≤ N) (hrs : rs cs k = some (st, nw)) (hpv : ¬ st = 2 → pv = bi ((pr cs k).2.2.2.2 nw)) (hpb : vp_nar .boolean pv = pv) (hnv : nv = bi (decide (st = 1))) (hw : ∀ j, j < nw → RW lt' ng' pl' (pr cs k).2 j), N - k < fuel → G l E (fun s => wS E a s ++ (wP E b (le, cs) ++ R)) P0 X 6 (((nI nw, rd, wi, na, so), lt', ng', pl', t1, t2, tr)) 12 [(4, .int (nI k)), (3, .int nv), (2, .int pv), (0, .ref (a 0)), (1, .ref (b 0))] [] := by
    intro fuel
    induction fuel with
    | zero => intro k st nw pv nv lt' ng' pl' hk hrs hpv hpb hnv hw hfu; exact absurd hfu (Nat.not_lt_zero _)
    | succ fuel ih12 =>
      intro k st nw pv nv lt' ng' pl' hk hrs hpv hpb hnv hw hfu
      have hst := rs_st hrs
      have h012 : st = 0 ∨ st = 1 ∨ st = 2 := by have := hst.1; simp only at this; omega
      have hpr := pr_rs hrs
      simp only at hpr
      rcases h012 with rfl | rfl | rfl
      · -- case 0
        obtain rfl : nv = 0 := hnv
        refine g_iload 12 O dX3_read_12 0 rfl ?_
        refine g_aload_n 14 O dX3_read_14 rfl 4 rfl ?_
        refine g_getN 15 O (v := .int le) inX2 7 rfl rfl 1 (by decide) (fun _ h => h.2.1) rfl dX3_read_15 ?_
        refine g_icmp_ge 18 O 84 dX3_read_18 (by decide) (fun h18 => ?_) (fun h18 => ?_)
        · -- taken
          have e : k = N := by rw [hle] at h18; have := ge_of_le (by omega) (by omega) h18; omega
          subst e
          obtain ⟨nw2, h2⟩ := isSay_iff.mp hS; rw [hrs] at h2; cases h2
        · -- not taken
          have hlt : k < N := by rw [hle] at h18; exact lt_of_nge (by omega) h18
          obtain ⟨sp9, hsp⟩ : ∃ s9, sp (0, nw) (cs k) = some s9 := by
            obtain ⟨nw2, h2⟩ := isSay_iff.mp hS
            have h3 := rs_some h2 k hlt
            rw [rs, hrs] at h3
            exact Option.isSome_iff_exists.mp h3
          refine g_aload_n 21 O dX3_read_21 rfl 4 rfl ?_
          refine g_iload 22 O dX3_read_22 0 rfl ?_
          refine g_callV 24 O (na := 1) (av := [.int (nI k)]) (c_X2_codeAt l E b (wS E a ((nI nw, rd, wi, na, so), lt', ng', pl', t1, t2, tr) ++ R) le cs (nI k) N k hle hN rfl hlt) kl_X3_44 km_X2_codeAt kv_X2_codeAt ki_X2 kc_X2_codeAt (by decide +kernel) rfl (Nat.le_of_ble_eq_true rfl) (Nat.le_of_ble_eq_true rfl) (fun _ h => Wo.swap (wS E a ((nI nw, rd, wi, na, so), lt', ng', pl', t1, t2, tr)) (wP E b (le, cs)) R rfl rfl h) 0 rfl rfl (fun _ => ((nI nw, rd, wi, na, so), lt', ng', pl', t1, t2, tr)) (fun _ _ _ hp h => by obtain ⟨-, rfl⟩ := hp; exact Wo.swap (wP E b (le, cs)) (wS E a ((nI nw, rd, wi, na, so), lt', ng', pl', t1, t2, tr)) R rfl rfl h) rfl (Nat.le_of_ble_eq_true rfl) dX3_read_24 (fun v9 s9 hv9 => ?_)
          obtain ⟨rfl, rfl⟩ := hv9
          refine g_istore 27 O (lv' := [(5, .int (cs k)), (4, .int (nI k)), (3, .int 0), (2, .int pv), (0, .ref (a 0)), (1, .ref (b 0))]) dX3_read_27 (by decide) rfl ?_
          refine g_iload 29 O dX3_read_29 0 rfl ?_
          refine g_bipush 31 O (v := 110) dX3_read_31 (by decide) ?_
          refine g_icmp_ne 33 O 41 dX3_read_33 (by decide) (fun h33 => ?_) (fun h33 => ?_)
          · -- taken
            have hl : 97 ≤ cs k ∧ cs k ≤ 102 := (sp0_i hsp).elim (fun q => absurd q.1 h33) (fun q => q.2.1)
            refine g_iload 41 O dX3_read_41 0 rfl ?_
            refine g_callN 43 O (na := 1) (av := [.int (cs k)]) (c_X2_isJoining l E _ _ (cs k)) (fun _ h => h.2.2.2.2.2.2.2.2.2.2.2.2.2.2.2.2) ks_X2_isJoining ki_X2 kc_X2_isJoining (by decide +kernel) rfl (Nat.le_of_ble_eq_true rfl) (Nat.le_of_ble_eq_true rfl) (fun _ h => h) (fun s => s) (fun _ _ _ _ h => h) rfl (Nat.le_of_ble_eq_true rfl) dX3_read_43 (fun v9 s9 hv9 => ?_)
            obtain ⟨rfl, rfl⟩ := hv9
            refine g_if_eq 46 O 65 dX3_read_46 (by decide) (fun h46 => ?_) (fun h46 => False.elim ((let_of hl).2.2.2 (ite_t h46)))
            refine g_aload_n 65 O dX3_read_65 rfl 4 rfl ?_
            refine g_iload_n 66 O dX3_read_66 rfl 3 rfl ?_
            refine g_iload_n 67 O dX3_read_67 rfl 2 rfl ?_
            refine g_iload 68 O dX3_read_68 0 rfl ?_
            refine g_bipush 70 O (v := 97) dX3_read_70 (by decide) ?_
            refine g_isub 72 O dX3_read_72 ?_
            refine g_callV 73 O (na := 3) (av := [.int pv, .int 0, .int ((cs k) - 97)]) (c_X3_append l E a (wP E b (le, cs) ++ R) (nI nw) rd wi na so lt' ng' pl' t1 t2 tr pv 0 (cs k - 97) nw rfl (hst.2.2 (show (0 : Nat) ≠ 2 by decide)) hpb rfl) kl_X3_52 km_X3_append kv_X3_append ki_X3 kc_X3_append (by decide +kernel) rfl (Nat.le_of_ble_eq_true rfl) (Nat.le_of_ble_eq_true rfl) (fun _ h => h) 0 rfl rfl (fun s => s) (fun _ _ _ _ h => h) rfl (Nat.le_of_ble_eq_true rfl) dX3_read_73 (fun v9 s9 hv9 => ?_)
            obtain ⟨rfl, rfl⟩ := hv9
            refine g_iconst 76 O (v := 0) dX3_read_76 (by decide) ?_
            refine g_istore_n 77 O (lv' := [(3, .int 0), (5, .int (cs k)), (4, .int (nI k)), (2, .int pv), (0, .ref (a 0)), (1, .ref (b 0))]) dX3_read_77 rfl (by decide) rfl ?_
            refine g_iinc 78 O (v := nI (k + 1)) (q := 2) (lv' := [(4, .int (nI (k + 1))), (3, .int 0), (5, .int (cs k)), (2, .int pv), (0, .ref (a 0)), (1, .ref (b 0))]) dX3_read_78 rfl (nI_1 k) (by decide) rfl ?_
            refine g_goto 81 O 12 dX3_read_81 (by decide) ?_
            refine g_sub [0, 1, 3, 4, 5] (lv' := [(4, .int (nI (k + 1))), (3, .int 0), (2, .int pv), (0, .ref (a 0)), (1, .ref (b 0))]) rfl ?_
            exact ih12 (k + 1) 2 (nw + 1) pv 0 (upd lt' nw (cs k - 97)) (upd ng' nw 0) (upd pl' nw pv) (by omega) (rs_go hrs (sp0_l hl)) (fun q => absurd rfl q) hpb rfl (rd_step hrs (by decide) hl (hpv (by decide)) rfl hw) (by omega)
          · -- not taken
            refine g_iconst 36 O (v := 1) dX3_read_36 (by decide) ?_
            refine g_istore_n 37 O (lv' := [(3, .int 1), (5, .int (cs k)), (4, .int (nI k)), (2, .int pv), (0, .ref (a 0)), (1, .ref (b 0))]) dX3_read_37 rfl (by decide) rfl ?_
            refine g_goto 38 O 78 dX3_read_38 (by decide) ?_
            refine g_iinc 78 O (v := nI (k + 1)) (q := 2) (lv' := [(4, .int (nI (k + 1))), (3, .int 1), (5, .int (cs k)), (2, .int pv), (0, .ref (a 0)), (1, .ref (b 0))]) dX3_read_78 rfl (nI_1 k) (by decide) rfl ?_
            refine g_goto 81 O 12 dX3_read_81 (by decide) ?_
            refine g_sub [0, 1, 3, 4, 5] (lv' := [(4, .int (nI (k + 1))), (3, .int 1), (2, .int pv), (0, .ref (a 0)), (1, .ref (b 0))]) rfl ?_
            exact ih12 (k + 1) 1 nw pv 1 lt' ng' pl' (by omega) (rs_go hrs (sp0_n h33)) (fun _ => by rw [pr_n hpr.1 h33]; exact hpv (by decide)) hpb rfl (fun j hj => by rw [pr_n hpr.1 h33]; exact hw j hj) (by omega)
      · -- case 1
        obtain rfl : nv = 1 := hnv
        refine g_iload 12 O dX3_read_12 0 rfl ?_
        refine g_aload_n 14 O dX3_read_14 rfl 4 rfl ?_
        refine g_getN 15 O (v := .int le) inX2 7 rfl rfl 1 (by decide) (fun _ h => h.2.1) rfl dX3_read_15 ?_
        refine g_icmp_ge 18 O 84 dX3_read_18 (by decide) (fun h18 => ?_) (fun h18 => ?_)
        · -- taken
          have e : k = N := by rw [hle] at h18; have := ge_of_le (by omega) (by omega) h18; omega
          subst e
          obtain ⟨nw2, h2⟩ := isSay_iff.mp hS; rw [hrs] at h2; cases h2
        · -- not taken
          have hlt : k < N := by rw [hle] at h18; exact lt_of_nge (by omega) h18
          obtain ⟨sp9, hsp⟩ : ∃ s9, sp (1, nw) (cs k) = some s9 := by
            obtain ⟨nw2, h2⟩ := isSay_iff.mp hS
            have h3 := rs_some h2 k hlt
            rw [rs, hrs] at h3
            exact Option.isSome_iff_exists.mp h3
          refine g_aload_n 21 O dX3_read_21 rfl 4 rfl ?_
          refine g_iload 22 O dX3_read_22 0 rfl ?_
          refine g_callV 24 O (na := 1) (av := [.int (nI k)]) (c_X2_codeAt l E b (wS E a ((nI nw, rd, wi, na, so), lt', ng', pl', t1, t2, tr) ++ R) le cs (nI k) N k hle hN rfl hlt) kl_X3_44 km_X2_codeAt kv_X2_codeAt ki_X2 kc_X2_codeAt (by decide +kernel) rfl (Nat.le_of_ble_eq_true rfl) (Nat.le_of_ble_eq_true rfl) (fun _ h => Wo.swap (wS E a ((nI nw, rd, wi, na, so), lt', ng', pl', t1, t2, tr)) (wP E b (le, cs)) R rfl rfl h) 0 rfl rfl (fun _ => ((nI nw, rd, wi, na, so), lt', ng', pl', t1, t2, tr)) (fun _ _ _ hp h => by obtain ⟨-, rfl⟩ := hp; exact Wo.swap (wP E b (le, cs)) (wS E a ((nI nw, rd, wi, na, so), lt', ng', pl', t1, t2, tr)) R rfl rfl h) rfl (Nat.le_of_ble_eq_true rfl) dX3_read_24 (fun v9 s9 hv9 => ?_)
          obtain ⟨rfl, rfl⟩ := hv9
          refine g_istore 27 O (lv' := [(5, .int (cs k)), (4, .int (nI k)), (3, .int 1), (2, .int pv), (0, .ref (a 0)), (1, .ref (b 0))]) dX3_read_27 (by decide) rfl ?_
          refine g_iload 29 O dX3_read_29 0 rfl ?_
          refine g_bipush 31 O (v := 110) dX3_read_31 (by decide) ?_
          have hl := (sp1_i hsp).1
          refine g_icmp_ne 33 O 41 dX3_read_33 (by decide) (fun h33 => ?_) (fun h33 => False.elim ((let_of hl).2.2.1 h33))
          refine g_iload 41 O dX3_read_41 0 rfl ?_
          refine g_callN 43 O (na := 1) (av := [.int (cs k)]) (c_X2_isJoining l E _ _ (cs k)) (fun _ h => h.2.2.2.2.2.2.2.2.2.2.2.2.2.2.2.2) ks_X2_isJoining ki_X2 kc_X2_isJoining (by decide +kernel) rfl (Nat.le_of_ble_eq_true rfl) (Nat.le_of_ble_eq_true rfl) (fun _ h => h) (fun s => s) (fun _ _ _ _ h => h) rfl (Nat.le_of_ble_eq_true rfl) dX3_read_43 (fun v9 s9 hv9 => ?_)
          obtain ⟨rfl, rfl⟩ := hv9
          refine g_if_eq 46 O 65 dX3_read_46 (by decide) (fun h46 => ?_) (fun h46 => False.elim ((let_of hl).2.2.2 (ite_t h46)))
          refine g_aload_n 65 O dX3_read_65 rfl 4 rfl ?_
          refine g_iload_n 66 O dX3_read_66 rfl 3 rfl ?_
          refine g_iload_n 67 O dX3_read_67 rfl 2 rfl ?_
          refine g_iload 68 O dX3_read_68 0 rfl ?_
          refine g_bipush 70 O (v := 97) dX3_read_70 (by decide) ?_
          refine g_isub 72 O dX3_read_72 ?_
          refine g_callV 73 O (na := 3) (av := [.int pv, .int 1, .int ((cs k) - 97)]) (c_X3_append l E a (wP E b (le, cs) ++ R) (nI nw) rd wi na so lt' ng' pl' t1 t2 tr pv 1 (cs k - 97) nw rfl (hst.2.2 (show (1 : Nat) ≠ 2 by decide)) hpb rfl) kl_X3_52 km_X3_append kv_X3_append ki_X3 kc_X3_append (by decide +kernel) rfl (Nat.le_of_ble_eq_true rfl) (Nat.le_of_ble_eq_true rfl) (fun _ h => h) 0 rfl rfl (fun s => s) (fun _ _ _ _ h => h) rfl (Nat.le_of_ble_eq_true rfl) dX3_read_73 (fun v9 s9 hv9 => ?_)
          obtain ⟨rfl, rfl⟩ := hv9
          refine g_iconst 76 O (v := 0) dX3_read_76 (by decide) ?_
          refine g_istore_n 77 O (lv' := [(3, .int 0), (5, .int (cs k)), (4, .int (nI k)), (2, .int pv), (0, .ref (a 0)), (1, .ref (b 0))]) dX3_read_77 rfl (by decide) rfl ?_
          refine g_iinc 78 O (v := nI (k + 1)) (q := 2) (lv' := [(4, .int (nI (k + 1))), (3, .int 0), (5, .int (cs k)), (2, .int pv), (0, .ref (a 0)), (1, .ref (b 0))]) dX3_read_78 rfl (nI_1 k) (by decide) rfl ?_
          refine g_goto 81 O 12 dX3_read_81 (by decide) ?_
          refine g_sub [0, 1, 3, 4, 5] (lv' := [(4, .int (nI (k + 1))), (3, .int 0), (2, .int pv), (0, .ref (a 0)), (1, .ref (b 0))]) rfl ?_
          exact ih12 (k + 1) 2 (nw + 1) pv 0 (upd lt' nw (cs k - 97)) (upd ng' nw 1) (upd pl' nw pv) (by omega) (rs_go hrs (sp1_l hl)) (fun q => absurd rfl q) hpb rfl (rd_step hrs (by decide) hl (hpv (by decide)) rfl hw) (by omega)
      · -- case 2
        obtain rfl : nv = 0 := hnv
        refine g_iload 12 O dX3_read_12 0 rfl ?_
        refine g_aload_n 14 O dX3_read_14 rfl 4 rfl ?_
        refine g_getN 15 O (v := .int le) inX2 7 rfl rfl 1 (by decide) (fun _ h => h.2.1) rfl dX3_read_15 ?_
        refine g_icmp_ge 18 O 84 dX3_read_18 (by decide) (fun h18 => ?_) (fun h18 => ?_)
        · -- taken
          have e : k = N := by rw [hle] at h18; have := ge_of_le (by omega) (by omega) h18; omega
          subst e
          exact g_vret 84 O dX3_read_84 (by rw [hP0, hpr.2]; exact ⟨rfl, lt', ng', pl', rfl, by rw [hpr.2], by rw [hpr.2]; exact hst.2.1, fun j hj => hw j (by rw [hpr.2] at hj; exact hj)⟩)
        · -- not taken
          have hlt : k < N := by rw [hle] at h18; exact lt_of_nge (by omega) h18
          obtain ⟨sp9, hsp⟩ : ∃ s9, sp (2, nw) (cs k) = some s9 := by
            obtain ⟨nw2, h2⟩ := isSay_iff.mp hS
            have h3 := rs_some h2 k hlt
            rw [rs, hrs] at h3
            exact Option.isSome_iff_exists.mp h3
          refine g_aload_n 21 O dX3_read_21 rfl 4 rfl ?_
          refine g_iload 22 O dX3_read_22 0 rfl ?_
          refine g_callV 24 O (na := 1) (av := [.int (nI k)]) (c_X2_codeAt l E b (wS E a ((nI nw, rd, wi, na, so), lt', ng', pl', t1, t2, tr) ++ R) le cs (nI k) N k hle hN rfl hlt) kl_X3_44 km_X2_codeAt kv_X2_codeAt ki_X2 kc_X2_codeAt (by decide +kernel) rfl (Nat.le_of_ble_eq_true rfl) (Nat.le_of_ble_eq_true rfl) (fun _ h => Wo.swap (wS E a ((nI nw, rd, wi, na, so), lt', ng', pl', t1, t2, tr)) (wP E b (le, cs)) R rfl rfl h) 0 rfl rfl (fun _ => ((nI nw, rd, wi, na, so), lt', ng', pl', t1, t2, tr)) (fun _ _ _ hp h => by obtain ⟨-, rfl⟩ := hp; exact Wo.swap (wP E b (le, cs)) (wS E a ((nI nw, rd, wi, na, so), lt', ng', pl', t1, t2, tr)) R rfl rfl h) rfl (Nat.le_of_ble_eq_true rfl) dX3_read_24 (fun v9 s9 hv9 => ?_)
          obtain ⟨rfl, rfl⟩ := hv9
          refine g_istore 27 O (lv' := [(5, .int (cs k)), (4, .int (nI k)), (3, .int 0), (2, .int pv), (0, .ref (a 0)), (1, .ref (b 0))]) dX3_read_27 (by decide) rfl ?_
          refine g_iload 29 O dX3_read_29 0 rfl ?_
          refine g_bipush 31 O (v := 110) dX3_read_31 (by decide) ?_
          have hn4 : nw < 4 := by
            rcases Nat.lt_or_ge nw 4 with q | q
            · exact q
            · rw [sp2_y q] at hsp; cases hsp
          refine g_icmp_ne 33 O 41 dX3_read_33 (by decide) (fun h33 => ?_) (fun h33 => False.elim (by rcases (sp2_i hsp).1 with q | q <;> rw [q] at h33 <;> exact absurd h33 (by decide)))
          refine g_iload 41 O dX3_read_41 0 rfl ?_
          refine g_callN 43 O (na := 1) (av := [.int (cs k)]) (c_X2_isJoining l E _ _ (cs k)) (fun _ h => h.2.2.2.2.2.2.2.2.2.2.2.2.2.2.2.2) ks_X2_isJoining ki_X2 kc_X2_isJoining (by decide +kernel) rfl (Nat.le_of_ble_eq_true rfl) (Nat.le_of_ble_eq_true rfl) (fun _ h => h) (fun s => s) (fun _ _ _ _ h => h) rfl (Nat.le_of_ble_eq_true rfl) dX3_read_43 (fun v9 s9 hv9 => ?_)
          obtain ⟨rfl, rfl⟩ := hv9
          refine g_if_eq 46 O 65 dX3_read_46 (by decide) (fun h46 => False.elim (ite_f h46 (sp2_i hsp).1)) (fun h46 => ?_)
          refine g_iload 49 O dX3_read_49 0 rfl ?_
          refine g_bipush 51 O (v := 43) dX3_read_51 (by decide) ?_
          refine g_icmp_ne 53 O 60 dX3_read_53 (by decide) (fun h53 => ?_) (fun h53 => ?_)
          · -- taken
            refine g_iconst 60 O (v := 0) dX3_read_60 (by decide) ?_
            refine g_istore_n 61 O (lv' := [(2, .int 0), (5, .int (cs k)), (4, .int (nI k)), (3, .int 0), (0, .ref (a 0)), (1, .ref (b 0))]) dX3_read_61 rfl (by decide) rfl ?_
            refine g_goto 62 O 78 dX3_read_62 (by decide) ?_
            refine g_iinc 78 O (v := nI (k + 1)) (q := 2) (lv' := [(4, .int (nI (k + 1))), (2, .int 0), (5, .int (cs k)), (3, .int 0), (0, .ref (a 0)), (1, .ref (b 0))]) dX3_read_78 rfl (nI_1 k) (by decide) rfl ?_
            refine g_goto 81 O 12 dX3_read_81 (by decide) ?_
            refine g_sub [0, 3, 1, 4, 5] (lv' := [(4, .int (nI (k + 1))), (3, .int 0), (2, .int 0), (0, .ref (a 0)), (1, .ref (b 0))]) rfl ?_
            exact ih12 (k + 1) 0 nw 0 0 lt' ng' pl' (by omega) (rs_go hrs (sp2_j (sp2_i hsp).1 hn4)) (fun _ => by rw [pr_2 hpr.1]; simp only [hpr.2, if_true]; rw [decide_eq_false h53]; rfl) rfl rfl (fun j hj => by
            obtain ⟨a1, a2, a3, a4⟩ := hw j hj
            rw [pr_2 hpr.1]
            refine ⟨a1, a2, a3, ?_⟩
            have n : ¬ j = nw := by omega
            simp only [hpr.2, n, if_false]; exact a4) (by omega)
          · -- not taken
            refine g_iconst 56 O (v := 1) dX3_read_56 (by decide) ?_
            refine g_goto 57 O 61 dX3_read_57 (by decide) ?_
            refine g_istore_n 61 O (lv' := [(2, .int 1), (5, .int (cs k)), (4, .int (nI k)), (3, .int 0), (0, .ref (a 0)), (1, .ref (b 0))]) dX3_read_61 rfl (by decide) rfl ?_
            refine g_goto 62 O 78 dX3_read_62 (by decide) ?_
            refine g_iinc 78 O (v := nI (k + 1)) (q := 2) (lv' := [(4, .int (nI (k + 1))), (2, .int 1), (5, .int (cs k)), (3, .int 0), (0, .ref (a 0)), (1, .ref (b 0))]) dX3_read_78 rfl (nI_1 k) (by decide) rfl ?_
            refine g_goto 81 O 12 dX3_read_81 (by decide) ?_
            refine g_sub [0, 3, 1, 4, 5] (lv' := [(4, .int (nI (k + 1))), (3, .int 0), (2, .int 1), (0, .ref (a 0)), (1, .ref (b 0))]) rfl ?_
            exact ih12 (k + 1) 0 nw 1 0 lt' ng' pl' (by omega) (rs_go hrs (sp2_j (sp2_i hsp).1 hn4)) (fun _ => by rw [pr_2 hpr.1]; simp only [hpr.2, if_true]; rw [decide_eq_true h53]; rfl) rfl rfl (fun j hj => by
            obtain ⟨a1, a2, a3, a4⟩ := hw j hj
            rw [pr_2 hpr.1]
            refine ⟨a1, a2, a3, ?_⟩
            have n : ¬ j = nw := by omega
            simp only [hpr.2, n, if_false]; exact a4) (by omega)
  exact L12 _ 0 0 0 0 0 lt ng pl (Nat.zero_le _) rfl (fun _ => rfl) rfl rfl (fun k h => absurd h (Nat.not_lt_zero _)) (Nat.lt_succ_self _)
