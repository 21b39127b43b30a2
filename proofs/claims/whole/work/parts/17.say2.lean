set_option maxRecDepth 100000 in
set_option maxHeartbeats 4000000 in
theorem c_X3_workOutWords (l : Launch) (E : Ev) (a : Nat → Nat) (b : Nat) (R : va_W) (sn : Nat → Int32) (wd rd wi na : Int32) (so : Int64) (lt ng pl : Nat → Int32) (t1 t2 tr : Nat → Int64) (y : Sy) (hy : SyW wd lt ng pl y) (z : Nat → Nat) (hz : SnW sn z) : Ctr l yX3_workOutWords cX3_workOutWords 7 none 1 20 E (fun s => wS E a s ++ ((b, .inl (E.cI, 6, .inl sn)) :: R)) [.ref (a 0), .ref b] (((wd, rd, wi, na, so), lt, ng, pl, t1, t2, tr)) (pV (fun s => ∃ t1' t2' : Nat → Int64, s = ((wd, rd, wi, na, so), lt, ng, pl, t1', t2', tr) ∧ ∀ k, k < y.1 → t1' k = wt1 y.2.1 y.2.2.1 k ∧ t2' k = wt2 z y.2.1 y.2.2.1 k)) := by
  refine Ctr.of' (by decide +kernel) (Nat.le_of_ble_eq_true rfl) (fun X P0 hP0 O => ?_)
  refine g_sub [0, 1] (lv' := [(0, .ref (a 0)), (1, .ref b)]) rfl ?_
  refine g_iconst 0 O (v := 0) dX3_workOutWords_0 (by decide) ?_
  refine g_istore_n 1 O (lv' := [(2, .int 0), (0, .ref (a 0)), (1, .ref b)]) dX3_workOutWords_1 rfl (by decide) rfl ?_
  refine g_sub [0, 1, 2] (lv' := [(2, .int 0), (0, .ref (a 0)), (1, .ref b)]) rfl ?_
  have L2 : ∀ (fuel : Nat) (i : Nat) (t1' t2' : Nat → Int64) (hi : i ≤ y.1) (hk : ∀ k, k < i → t1' k = wt1 y.2.1 y.2.2.1 k ∧ t2' k = wt2 z y.2.1 y.2.2.1 k), y.1 - i < fuel → G l E (fun s => wS E a s ++ ((b, .inl (E.cI, 6, .inl sn)) :: R)) P0 X 7 (((wd, rd, wi, na, so), lt, ng, pl, t1', t2', tr)) 2 [(2, .int (nI i)), (0, .ref (a 0)), (1, .ref b)] [] := by
    intro fuel
    induction fuel with
    | zero => intro i t1' t2' hi hk hfu; exact absurd hfu (Nat.not_lt_zero _)
    | succ fuel ih2 =>
      intro i t1' t2' hi hk hfu
      have hy4 := hy.2.1
      refine g_iload_n 2 O dX3_workOutWords_2 rfl 0 rfl ?_
      refine g_aload_n 3 O dX3_workOutWords_3 rfl 1 rfl ?_
      refine g_get 4 O (v := .int wd) inX3 0 rfl rfl 6 (by decide) kf_X3_32 rfl dX3_workOutWords_4 ?_
      refine g_icmp_ge 7 O 92 dX3_workOutWords_7 (by decide) (fun h7 => ?_) (fun h7 => ?_)
      · -- taken
        have e : i = y.1 := by rw [hy.1] at h7; have := ge_of_le (by omega) (by omega) h7; omega
        subst e
        exact g_vret 92 O dX3_workOutWords_92 (by rw [hP0]; exact ⟨rfl, t1', t2', rfl, hk⟩)
      · -- not taken
        have hlt : i < y.1 := by rw [hy.1] at h7; exact lt_of_nge (by omega) h7
        obtain ⟨w1, w2, w3, w4⟩ := hy.2.2 i hlt
        refine g_iload_n 10 O dX3_workOutWords_10 rfl 0 rfl ?_
        refine g_iconst 11 O (v := 4) dX3_workOutWords_11 (by decide) ?_
        refine g_icmp_ge 12 O 92 dX3_workOutWords_12 (by decide) (fun h12 => False.elim (absurd h12 (nI_ge (b := 4) (by omega) (by decide)))) (fun h12 => ?_)
        refine g_aload_n 15 O dX3_workOutWords_15 rfl 1 rfl ?_
        refine g_get 16 O (v := .ref (a 1)) inX3 0 rfl rfl 0 (by decide) kf_X3_9 rfl dX3_workOutWords_16 ?_
        refine g_iload_n 19 O dX3_workOutWords_19 rfl 0 rfl ?_
        refine g_iald 20 O 1 i rfl (rfl) (by omega) (by decide) dX3_workOutWords_20 ?_
        refine g_si (nI (y.2.1 i)) (w1) ?_
        refine g_istore_n 21 O (lv' := [(3, .int (nI (y.2.1 i))), (2, .int (nI i)), (0, .ref (a 0)), (1, .ref b)]) dX3_workOutWords_21 rfl (by decide) rfl ?_
        refine g_iload_n 22 O dX3_workOutWords_22 rfl 0 rfl ?_
        refine g_if_lt 23 O 38 dX3_workOutWords_23 (by decide) (fun h23 => False.elim (absurd h23 (nI_pos (by omega)))) (fun h23 => ?_)
        refine g_iload_n 26 O dX3_workOutWords_26 rfl 0 rfl ?_
        refine g_aload_n 27 O dX3_workOutWords_27 rfl 3 rfl ?_
        refine g_alen 28 O (v := 6) 7 0 rfl rfl rfl dX3_workOutWords_28 ?_
        refine g_icmp_ge 29 O 38 dX3_workOutWords_29 (by decide) (fun h29 => False.elim (absurd h29 (nI_ge (b := 6) (by omega) (by decide)))) (fun h29 => ?_)
        refine g_aload_n 32 O dX3_workOutWords_32 rfl 3 rfl ?_
        refine g_iload_n 33 O dX3_workOutWords_33 rfl 0 rfl ?_
        refine g_iald 34 O 7 ((y.2.1 i)) rfl (rfl) (w2) (by decide) dX3_workOutWords_34 ?_
        refine g_si (nI (z (y.2.1 i))) ((hz _ w2).1) ?_
        refine g_goto 35 O 39 dX3_workOutWords_35 (by decide) ?_
        refine g_istore 39 O (lv' := [(4, .int (nI (z (y.2.1 i)))), (3, .int (nI (y.2.1 i))), (2, .int (nI i)), (0, .ref (a 0)), (1, .ref b)]) dX3_workOutWords_39 (by decide) rfl ?_
        refine g_aload_n 41 O dX3_workOutWords_41 rfl 3 rfl ?_
        refine g_get 42 O (v := .ref (a 2)) inX3 0 rfl rfl 1 (by decide) kf_X3_15 rfl dX3_workOutWords_42 ?_
        refine g_iload_n 45 O dX3_workOutWords_45 rfl 2 rfl ?_
        refine g_zald 46 O 2 i rfl (rfl) (by omega) (by decide) dX3_workOutWords_46 ?_
        refine g_si (bi (y.2.2.1 i)) (w3) ?_
        refine g_if_eq 47 O 56 dX3_workOutWords_47 (by decide) (fun h47 => ?_) (fun h47 => ?_)
        · -- taken
          refine g_lconst 56 O (v := 0) dX3_workOutWords_56 (by decide) ?_
          refine g_lstore 57 O (lv' := [(5, .long 0), (4, .int (nI (z (y.2.1 i)))), (3, .int (nI (y.2.1 i))), (2, .int (nI i)), (0, .ref (a 0)), (1, .ref b)]) dX3_workOutWords_57 (by decide) rfl ?_
          refine g_aload_n 59 O dX3_workOutWords_59 rfl 4 rfl ?_
          refine g_get 60 O (v := .ref (a 4)) inX3 0 rfl rfl 3 (by decide) kf_X3_22 rfl dX3_workOutWords_60 ?_
          refine g_iload_n 63 O dX3_workOutWords_63 rfl 3 rfl ?_
          refine g_iload_n 64 O dX3_workOutWords_64 rfl 2 rfl ?_
          refine g_callN 65 O (na := 1) (av := [.int (nI (y.2.1 i))]) (c_X5_worldsOfFact l E _ _ (nI (y.2.1 i)) (y.2.1 i) rfl w2) (fun _ h => h.2.2.2.2.2.2.2.2.2.2.2.2.2.2.1) ks_X5_worldsOfFact ki_X5 kc_X5_worldsOfFact (by decide +kernel) rfl (Nat.le_of_ble_eq_true rfl) (Nat.le_of_ble_eq_true rfl) (fun _ h => h) (fun s => s) (fun _ _ _ _ h => h) rfl (Nat.le_of_ble_eq_true rfl) dX3_workOutWords_65 (fun v9 s9 hv9 => ?_)
          obtain ⟨rfl, rfl⟩ := hv9
          refine g_lload 68 O dX3_workOutWords_68 0 rfl ?_
          refine g_lxor 70 O dX3_workOutWords_70 ?_
          refine g_last 71 O (((wd, rd, wi, na, so), lt, ng, pl, vp_updL t1' i ((Wf (y.2.1 i)) ^^^ 0), t2', tr)) 4 i rfl (rfl) (by omega) (by decide) rfl dX3_workOutWords_71 ?_
          refine g_aload_n 72 O dX3_workOutWords_72 rfl 4 rfl ?_
          refine g_get 73 O (v := .ref (a 5)) inX3 0 rfl rfl 4 (by decide) kf_X3_26 rfl dX3_workOutWords_73 ?_
          refine g_iload_n 76 O dX3_workOutWords_76 rfl 3 rfl ?_
          refine g_iload 77 O dX3_workOutWords_77 1 rfl ?_
          refine g_callN 79 O (na := 1) (av := [.int (nI (z (y.2.1 i)))]) (c_X5_worldsOfFact l E _ _ (nI (z (y.2.1 i))) (z (y.2.1 i)) rfl (hz _ w2).2) (fun _ h => h.2.2.2.2.2.2.2.2.2.2.2.2.2.2.1) ks_X5_worldsOfFact ki_X5 kc_X5_worldsOfFact (by decide +kernel) rfl (Nat.le_of_ble_eq_true rfl) (Nat.le_of_ble_eq_true rfl) (fun _ h => h) (fun s => s) (fun _ _ _ _ h => h) rfl (Nat.le_of_ble_eq_true rfl) dX3_workOutWords_79 (fun v9 s9 hv9 => ?_)
          obtain ⟨rfl, rfl⟩ := hv9
          refine g_lload 82 O dX3_workOutWords_82 0 rfl ?_
          refine g_lxor 84 O dX3_workOutWords_84 ?_
          refine g_last 85 O (((wd, rd, wi, na, so), lt, ng, pl, vp_updL t1' i ((Wf (y.2.1 i)) ^^^ 0), vp_updL t2' i ((Wf (z (y.2.1 i))) ^^^ 0), tr)) 5 i rfl (rfl) (by omega) (by decide) rfl dX3_workOutWords_85 ?_
          refine g_iinc 86 O (v := nI (i + 1)) (q := 3) (lv' := [(2, .int (nI (i + 1))), (5, .long 0), (4, .int (nI (z (y.2.1 i)))), (3, .int (nI (y.2.1 i))), (0, .ref (a 0)), (1, .ref b)]) dX3_workOutWords_86 rfl (nI_1 i) (by decide) rfl ?_
          refine g_goto 89 O 2 dX3_workOutWords_89 (by decide) ?_
          refine g_sub [0, 4, 5] (lv' := [(2, .int (nI (i + 1))), (0, .ref (a 0)), (1, .ref b)]) rfl ?_
          exact ih2 (i + 1) (vp_updL t1' i (Wf (y.2.1 i) ^^^ 0)) (vp_updL t2' i (Wf (z (y.2.1 i)) ^^^ 0)) (by omega) (fun k h => by
            rcases Nat.lt_or_ge k i with q | q
            · have n : ¬ k = i := by omega
              rw [updL_n _ _ n, updL_n _ _ n]; exact hk k q
            · have e : k = i := by omega
              subst e
              rw [updL_s, updL_s, wt1, wt2, if_neg (by rw [bi_f h47]; decide)]; exact ⟨rfl, rfl⟩) (by omega)
        · -- not taken
          refine g_ldc2 50 O (v := (-1)) dX3_workOutWords_50 kk_X3_84 ?_
          refine g_goto 53 O 57 dX3_workOutWords_53 (by decide) ?_
          refine g_lstore 57 O (lv' := [(5, .long ((-1))), (4, .int (nI (z (y.2.1 i)))), (3, .int (nI (y.2.1 i))), (2, .int (nI i)), (0, .ref (a 0)), (1, .ref b)]) dX3_workOutWords_57 (by decide) rfl ?_
          refine g_aload_n 59 O dX3_workOutWords_59 rfl 4 rfl ?_
          refine g_get 60 O (v := .ref (a 4)) inX3 0 rfl rfl 3 (by decide) kf_X3_22 rfl dX3_workOutWords_60 ?_
          refine g_iload_n 63 O dX3_workOutWords_63 rfl 3 rfl ?_
          refine g_iload_n 64 O dX3_workOutWords_64 rfl 2 rfl ?_
          refine g_callN 65 O (na := 1) (av := [.int (nI (y.2.1 i))]) (c_X5_worldsOfFact l E _ _ (nI (y.2.1 i)) (y.2.1 i) rfl w2) (fun _ h => h.2.2.2.2.2.2.2.2.2.2.2.2.2.2.1) ks_X5_worldsOfFact ki_X5 kc_X5_worldsOfFact (by decide +kernel) rfl (Nat.le_of_ble_eq_true rfl) (Nat.le_of_ble_eq_true rfl) (fun _ h => h) (fun s => s) (fun _ _ _ _ h => h) rfl (Nat.le_of_ble_eq_true rfl) dX3_workOutWords_65 (fun v9 s9 hv9 => ?_)
          obtain ⟨rfl, rfl⟩ := hv9
          refine g_lload 68 O dX3_workOutWords_68 0 rfl ?_
          refine g_lxor 70 O dX3_workOutWords_70 ?_
          refine g_last 71 O (((wd, rd, wi, na, so), lt, ng, pl, vp_updL t1' i ((Wf (y.2.1 i)) ^^^ ((-1))), t2', tr)) 4 i rfl (rfl) (by omega) (by decide) rfl dX3_workOutWords_71 ?_
          refine g_aload_n 72 O dX3_workOutWords_72 rfl 4 rfl ?_
          refine g_get 73 O (v := .ref (a 5)) inX3 0 rfl rfl 4 (by decide) kf_X3_26 rfl dX3_workOutWords_73 ?_
          refine g_iload_n 76 O dX3_workOutWords_76 rfl 3 rfl ?_
          refine g_iload 77 O dX3_workOutWords_77 1 rfl ?_
          refine g_callN 79 O (na := 1) (av := [.int (nI (z (y.2.1 i)))]) (c_X5_worldsOfFact l E _ _ (nI (z (y.2.1 i))) (z (y.2.1 i)) rfl (hz _ w2).2) (fun _ h => h.2.2.2.2.2.2.2.2.2.2.2.2.2.2.1) ks_X5_worldsOfFact ki_X5 kc_X5_worldsOfFact (by decide +kernel) rfl (Nat.le_of_ble_eq_true rfl) (Nat.le_of_ble_eq_true rfl) (fun _ h => h) (fun s => s) (fun _ _ _ _ h => h) rfl (Nat.le_of_ble_eq_true rfl) dX3_workOutWords_79 (fun v9 s9 hv9 => ?_)
          obtain ⟨rfl, rfl⟩ := hv9
          refine g_lload 82 O dX3_workOutWords_82 0 rfl ?_
          refine g_lxor 84 O dX3_workOutWords_84 ?_
          refine g_last 85 O (((wd, rd, wi, na, so), lt, ng, pl, vp_updL t1' i ((Wf (y.2.1 i)) ^^^ ((-1))), vp_updL t2' i ((Wf (z (y.2.1 i))) ^^^ ((-1))), tr)) 5 i rfl (rfl) (by omega) (by decide) rfl dX3_workOutWords_85 ?_
          refine g_iinc 86 O (v := nI (i + 1)) (q := 3) (lv' := [(2, .int (nI (i + 1))), (5, .long ((-1))), (4, .int (nI (z (y.2.1 i)))), (3, .int (nI (y.2.1 i))), (0, .ref (a 0)), (1, .ref b)]) dX3_workOutWords_86 rfl (nI_1 i) (by decide) rfl ?_
          refine g_goto 89 O 2 dX3_workOutWords_89 (by decide) ?_
          refine g_sub [0, 4, 5] (lv' := [(2, .int (nI (i + 1))), (0, .ref (a 0)), (1, .ref b)]) rfl ?_
          exact ih2 (i + 1) (vp_updL t1' i (Wf (y.2.1 i) ^^^ (-1))) (vp_updL t2' i (Wf (z (y.2.1 i)) ^^^ (-1))) (by omega) (fun k h => by
            rcases Nat.lt_or_ge k i with q | q
            · have n : ¬ k = i := by omega
              rw [updL_n _ _ n, updL_n _ _ n]; exact hk k q
            · have e : k = i := by omega
              subst e
              rw [updL_s, updL_s, wt1, wt2, if_pos (bi_t h47)]; exact ⟨rfl, rfl⟩) (by omega)
  exact L2 _ 0 t1 t2 (Nat.zero_le _) (fun k h => absurd h (Nat.not_lt_zero _)) (Nat.lt_succ_self _)

set_option maxRecDepth 100000 in
set_option maxHeartbeats 4000000 in
theorem c_X3_countPluses (l : Launch) (E : Ev) (a : Nat → Nat) (R : va_W) (wd rd wi na : Int32) (so : Int64) (lt ng pl : Nat → Int32) (t1 t2 tr : Nat → Int64) (y : Sy) (hy : SyW wd lt ng pl y) (h0 : 0 < y.1) : Ctr l yX3_countPluses cX3_countPluses 3 (some .int) 0 0 E (fun s => wS E a s ++ R) [.ref (a 0)] (((wd, rd, wi, na, so), lt, ng, pl, t1, t2, tr)) (fun v8 s8 => v8 = some (.int (nI (npl y.2.2.2 y.1))) ∧ s8 = ((wd, rd, wi, na, so), lt, ng, pl, t1, t2, tr)) := by
  refine Ctr.of' (by decide +kernel) (Nat.le_of_ble_eq_true rfl) (fun X P0 hP0 O => ?_)
  refine g_sub [0] (lv' := [(0, .ref (a 0))]) rfl ?_
  refine g_iconst 0 O (v := 0) dX3_countPluses_0 (by decide) ?_
  refine g_istore_n 1 O (lv' := [(1, .int 0), (0, .ref (a 0))]) dX3_countPluses_1 rfl (by decide) rfl ?_
  refine g_iconst 2 O (v := 1) dX3_countPluses_2 (by decide) ?_
  refine g_istore_n 3 O (lv' := [(2, .int 1), (1, .int 0), (0, .ref (a 0))]) dX3_countPluses_3 rfl (by decide) rfl ?_
  refine g_sub [0, 1, 2] (lv' := [(2, .int 1), (1, .int 0), (0, .ref (a 0))]) rfl ?_
  have L4 : ∀ (fuel : Nat) (i : Nat) (hi : i ≤ y.1 - 1), y.1 - i < fuel → G l E (fun s => wS E a s ++ R) P0 X 3 (((wd, rd, wi, na, so), lt, ng, pl, t1, t2, tr)) 4 [(2, .int (nI (i + 1))), (1, .int (nI (cn (fun k => y.2.2.2 (k + 1)) i))), (0, .ref (a 0))] [] := by
    intro fuel
    induction fuel with
    | zero => intro i hi hfu; exact absurd hfu (Nat.not_lt_zero _)
    | succ fuel ih4 =>
      intro i hi hfu
      have hy4 := hy.2.1
      refine g_iload_n 4 O dX3_countPluses_4 rfl 0 rfl ?_
      refine g_aload_n 5 O dX3_countPluses_5 rfl 2 rfl ?_
      refine g_get 6 O (v := .int wd) inX3 0 rfl rfl 6 (by decide) kf_X3_32 rfl dX3_countPluses_6 ?_
      refine g_icmp_ge 9 O 40 dX3_countPluses_9 (by decide) (fun h9 => ?_) (fun h9 => ?_)
      · -- taken
        have e : i = y.1 - 1 := by rw [hy.1] at h9; have := ge_of_le (by omega) (by omega) h9; omega
        subst e
        refine g_iload_n 40 O dX3_countPluses_40 rfl 1 rfl ?_
        exact g_iret 41 O dX3_countPluses_41 (by rw [hP0]; exact ⟨rfl, rfl⟩)
      · -- not taken
        have hlt : i + 1 < y.1 := by rw [hy.1] at h9; exact lt_of_nge (by omega) h9
        refine g_iload_n 12 O dX3_countPluses_12 rfl 0 rfl ?_
        refine g_iconst 13 O (v := 4) dX3_countPluses_13 (by decide) ?_
        refine g_icmp_ge 14 O 40 dX3_countPluses_14 (by decide) (fun h14 => False.elim (absurd h14 (nI_ge (b := 4) (by omega) (by decide)))) (fun h14 => ?_)
        refine g_iload_n 17 O dX3_countPluses_17 rfl 1 rfl ?_
        refine g_aload_n 18 O dX3_countPluses_18 rfl 2 rfl ?_
        refine g_get 19 O (v := .ref (a 3)) inX3 0 rfl rfl 2 (by decide) kf_X3_19 rfl dX3_countPluses_19 ?_
        refine g_iload_n 22 O dX3_countPluses_22 rfl 0 rfl ?_
        refine g_zald 23 O 3 ((i + 1)) rfl (rfl) (by omega) (by decide) dX3_countPluses_23 ?_
        refine g_si (bi (y.2.2.2 (i + 1))) ((hy.2.2 _ hlt).2.2.2) ?_
        refine g_if_eq 24 O 31 dX3_countPluses_24 (by decide) (fun h24 => ?_) (fun h24 => ?_)
        · -- taken
          refine g_iconst 31 O (v := 0) dX3_countPluses_31 (by decide) ?_
          refine g_iadd 32 O dX3_countPluses_32 ?_
          refine g_si (nI (cn (fun k => y.2.2.2 (k + 1)) (i + 1))) (cn_f (p := fun k => y.2.2.2 (k + 1)) (bi_f h24)) ?_
          refine g_istore_n 33 O (lv' := [(1, .int (nI (cn (fun k => y.2.2.2 (k + 1)) (i + 1)))), (2, .int (nI (i + 1))), (0, .ref (a 0))]) dX3_countPluses_33 rfl (by decide) rfl ?_
          refine g_iinc 34 O (v := nI (i + 1 + 1)) (q := 1) (lv' := [(2, .int (nI (i + 1 + 1))), (1, .int (nI (cn (fun k => y.2.2.2 (k + 1)) (i + 1)))), (0, .ref (a 0))]) dX3_countPluses_34 rfl (nI_1 (i + 1)) (by decide) rfl ?_
          refine g_goto 37 O 4 dX3_countPluses_37 (by decide) ?_
          refine g_sub [0, 1, 2] (lv' := [(2, .int (nI (i + 1 + 1))), (1, .int (nI (cn (fun k => y.2.2.2 (k + 1)) (i + 1)))), (0, .ref (a 0))]) rfl ?_
          exact ih4 (i + 1) (by omega) (by omega)
        · -- not taken
          refine g_iconst 27 O (v := 1) dX3_countPluses_27 (by decide) ?_
          refine g_goto 28 O 32 dX3_countPluses_28 (by decide) ?_
          refine g_iadd 32 O dX3_countPluses_32 ?_
          refine g_si (nI (cn (fun k => y.2.2.2 (k + 1)) (i + 1))) (cn_t (p := fun k => y.2.2.2 (k + 1)) (bi_t h24)) ?_
          refine g_istore_n 33 O (lv' := [(1, .int (nI (cn (fun k => y.2.2.2 (k + 1)) (i + 1)))), (2, .int (nI (i + 1))), (0, .ref (a 0))]) dX3_countPluses_33 rfl (by decide) rfl ?_
          refine g_iinc 34 O (v := nI (i + 1 + 1)) (q := 1) (lv' := [(2, .int (nI (i + 1 + 1))), (1, .int (nI (cn (fun k => y.2.2.2 (k + 1)) (i + 1)))), (0, .ref (a 0))]) dX3_countPluses_34 rfl (nI_1 (i + 1)) (by decide) rfl ?_
          refine g_goto 37 O 4 dX3_countPluses_37 (by decide) ?_
          refine g_sub [0, 1, 2] (lv' := [(2, .int (nI (i + 1 + 1))), (1, .int (nI (cn (fun k => y.2.2.2 (k + 1)) (i + 1)))), (0, .ref (a 0))]) rfl ?_
          exact ih4 (i + 1) (by omega) (by omega)
  exact L4 _ 0 (Nat.zero_le _) (Nat.lt_succ_self _)

set_option maxRecDepth 100000 in
set_option maxHeartbeats 4000000 in
theorem c_X3_bracketings (l : Launch) (E : Ev) (a : Nat → Nat) (R : va_W) (wd rd wi na : Int32) (so : Int64) (lt ng pl : Nat → Int32) (t1 t2 tr : Nat → Int64) (y : Sy) (hy : SyW wd lt ng pl y) : Ctr l yX3_bracketings cX3_bracketings 1 (some .int) 0 0 E (fun s => wS E a s ++ R) [.ref (a 0)] (((wd, rd, wi, na, so), lt, ng, pl, t1, t2, tr)) (fun v8 s8 => v8 = some (.int (nI (nbr y.1))) ∧ s8 = ((wd, rd, wi, na, so), lt, ng, pl, t1, t2, tr)) := by
  refine Ctr.of' (by decide +kernel) (Nat.le_of_ble_eq_true rfl) (fun X P0 hP0 O => ?_)
  refine g_sub [0] (lv' := [(0, .ref (a 0))]) rfl ?_
  refine g_aload_n 0 O dX3_bracketings_0 rfl 0 rfl ?_
  refine g_get 1 O (v := .int wd) inX3 0 rfl rfl 6 (by decide) kf_X3_32 rfl dX3_bracketings_1 ?_
  refine g_iconst 4 O (v := 4) dX3_bracketings_4 (by decide) ?_
  refine g_icmp_ne 5 O 12 dX3_bracketings_5 (by decide) (fun h5 => ?_) (fun h5 => ?_)
  · -- taken
    refine g_aload_n 12 O dX3_bracketings_12 rfl 0 rfl ?_
    refine g_get 13 O (v := .int wd) inX3 0 rfl rfl 6 (by decide) kf_X3_32 rfl dX3_bracketings_13 ?_
    refine g_iconst 16 O (v := 3) dX3_bracketings_16 (by decide) ?_
    refine g_icmp_ne 17 O 24 dX3_bracketings_17 (by decide) (fun h17 => ?_) (fun h17 => ?_)
    · -- taken
      refine g_iconst 24 O (v := 1) dX3_bracketings_24 (by decide) ?_
      exact g_iret 25 O dX3_bracketings_25 (by have hy4 := hy.2.1; rw [hP0, nbr]; rw [if_neg (fun e => h5 (by rw [hy.1, e]; rfl)), if_neg (fun e => h17 (by rw [hy.1, e]; rfl))]; exact ⟨rfl, rfl⟩)
    · -- not taken
      refine g_iconst 20 O (v := 2) dX3_bracketings_20 (by decide) ?_
      refine g_goto 21 O 25 dX3_bracketings_21 (by decide) ?_
      exact g_iret 25 O dX3_bracketings_25 (by have hy4 := hy.2.1; rw [hP0, nbr]; rw [if_neg (fun e => h5 (by rw [hy.1, e]; rfl)), if_pos (by rw [hy.1] at h17; exact (nI_eq (b := 3) (by omega) (by decide)).mp h17)]; exact ⟨rfl, rfl⟩)
  · -- not taken
    refine g_iconst 8 O (v := 5) dX3_bracketings_8 (by decide) ?_
    refine g_goto 9 O 25 dX3_bracketings_9 (by decide) ?_
    exact g_iret 25 O dX3_bracketings_25 (by have hy4 := hy.2.1; rw [hP0, nbr]; rw [if_pos (by rw [hy.1] at h5; exact (nI_eq (b := 4) (by omega) (by decide)).mp h5)]; exact ⟨rfl, rfl⟩)

set_option maxRecDepth 100000 in
set_option maxHeartbeats 4000000 in
theorem c_X3_joiningsThatAreOr (l : Launch) (E : Ev) (a : Nat → Nat) (R : va_W) (wd rd wi na : Int32) (so : Int64) (lt ng pl : Nat → Int32) (t1 t2 tr : Nat → Int64) (p0 : Int32) (y : Sy) (hy : SyW wd lt ng pl y) (h0 : 0 < y.1) (p : Nat) (hp : p0 = nI p) (hp8 : p < 8) : Ctr l yX3_joiningsThatAreOr cX3_joiningsThatAreOr 5 (some .int) 1 22 E (fun s => wS E a s ++ R) [.ref (a 0), .int p0] (((wd, rd, wi, na, so), lt, ng, pl, t1, t2, tr)) (pI (fun r s => s = ((wd, rd, wi, na, so), lt, ng, pl, t1, t2, tr) ∧ ∃ v : Nat, r = nI v ∧ v < 8 ∧ ∀ k, k < y.1 - 1 → v.testBit k = jo y.2.2.2 p k)) := by
  refine Ctr.of' (by decide +kernel) (Nat.le_of_ble_eq_true rfl) (fun X P0 hP0 O => ?_)
  refine g_sub [0, 1] (lv' := [(0, .ref (a 0)), (1, .int p0)]) rfl ?_
  refine g_iconst 0 O (v := 0) dX3_joiningsThatAreOr_0 (by decide) ?_
  refine g_istore_n 1 O (lv' := [(2, .int 0), (0, .ref (a 0)), (1, .int p0)]) dX3_joiningsThatAreOr_1 rfl (by decide) rfl ?_
  refine g_iconst 2 O (v := 0) dX3_joiningsThatAreOr_2 (by decide) ?_
  refine g_istore_n 3 O (lv' := [(3, .int 0), (2, .int 0), (0, .ref (a 0)), (1, .int p0)]) dX3_joiningsThatAreOr_3 rfl (by decide) rfl ?_
  refine g_iconst 4 O (v := 1) dX3_joiningsThatAreOr_4 (by decide) ?_
  refine g_istore 5 O (lv' := [(4, .int 1), (3, .int 0), (2, .int 0), (0, .ref (a 0)), (1, .int p0)]) dX3_joiningsThatAreOr_5 (by decide) rfl ?_
  refine g_sub [0, 1, 2, 3, 4] (lv' := [(4, .int 1), (3, .int 0), (2, .int 0), (0, .ref (a 0)), (1, .int p0)]) rfl ?_
  have L7 : ∀ (fuel : Nat) (i v : Nat) (hi : i ≤ y.1 - 1) (hv : v < 2 ^ i) (hb : ∀ k, k < i → v.testBit k = jo y.2.2.2 p k), y.1 - i < fuel → G l E (fun s => wS E a s ++ R) P0 X 5 (((wd, rd, wi, na, so), lt, ng, pl, t1, t2, tr)) 7 [(4, .int (nI (i + 1))), (3, .int (nI (cn (fun j => y.2.2.2 (j + 1)) i))), (2, .int (nI v)), (0, .ref (a 0)), (1, .int p0)] [] := by
    intro fuel
    induction fuel with
    | zero => intro i v hi hv hb hfu; exact absurd hfu (Nat.not_lt_zero _)
    | succ fuel ih7 =>
      intro i v hi hv hb hfu
      have hy4 := hy.2.1
      refine g_iload 7 O dX3_joiningsThatAreOr_7 0 rfl ?_
      refine g_aload_n 9 O dX3_joiningsThatAreOr_9 rfl 3 rfl ?_
      refine g_get 10 O (v := .int wd) inX3 0 rfl rfl 6 (by decide) kf_X3_32 rfl dX3_joiningsThatAreOr_10 ?_
      refine g_icmp_ge 13 O 55 dX3_joiningsThatAreOr_13 (by decide) (fun h13 => ?_) (fun h13 => ?_)
      · -- taken
        have e : i = y.1 - 1 := by rw [hy.1] at h13; have := ge_of_le (by omega) (by omega) h13; omega
        subst e
        refine g_iload_n 55 O dX3_joiningsThatAreOr_55 rfl 2 rfl ?_
        exact g_iret 56 O dX3_joiningsThatAreOr_56 (by rw [hP0]; exact ⟨_, rfl, rfl, v, rfl, Nat.lt_of_lt_of_le hv (Nat.pow_le_pow_right (by decide) (show y.1 - 1 ≤ 3 by omega)), hb⟩)
      · -- not taken
        have hlt : i + 1 < y.1 := by rw [hy.1] at h13; exact lt_of_nge (by omega) h13
        have hv4 : v < 4 := Nat.lt_of_lt_of_le hv (Nat.pow_le_pow_right (by decide) (show i ≤ 2 by omega))
        have hc3 : cn (fun j => y.2.2.2 (j + 1)) i < 3 := Nat.lt_of_le_of_lt (cn_le _ _) (by omega)
        refine g_iload 16 O dX3_joiningsThatAreOr_16 0 rfl ?_
        refine g_iconst 18 O (v := 4) dX3_joiningsThatAreOr_18 (by decide) ?_
        refine g_icmp_ge 19 O 55 dX3_joiningsThatAreOr_19 (by decide) (fun h19 => False.elim (absurd h19 (nI_ge (b := 4) (by omega) (by decide)))) (fun h19 => ?_)
        refine g_aload_n 22 O dX3_joiningsThatAreOr_22 rfl 3 rfl ?_
        refine g_get 23 O (v := .ref (a 3)) inX3 0 rfl rfl 2 (by decide) kf_X3_19 rfl dX3_joiningsThatAreOr_23 ?_
        refine g_iload 26 O dX3_joiningsThatAreOr_26 0 rfl ?_
        refine g_zald 28 O 3 ((i + 1)) rfl (rfl) (by omega) (by decide) dX3_joiningsThatAreOr_28 ?_
        refine g_si (bi (y.2.2.2 (i + 1))) ((hy.2.2 _ hlt).2.2.2) ?_
        refine g_if_eq 29 O 49 dX3_joiningsThatAreOr_29 (by decide) (fun h29 => ?_) (fun h29 => ?_)
        · -- taken
          rw [show (nI (cn (fun j => y.2.2.2 (j + 1)) i) : Int32) = nI (cn (fun j => y.2.2.2 (j + 1)) (i + 1)) from cn_f' (p := (fun j => y.2.2.2 (j + 1))) (bi_f h29)]
          refine g_iinc 49 O (v := nI (i + 1 + 1)) (q := 0) (lv' := [(4, .int (nI (i + 1 + 1))), (3, .int (nI (cn (fun j => y.2.2.2 (j + 1)) (i + 1)))), (2, .int (nI v)), (0, .ref (a 0)), (1, .int p0)]) dX3_joiningsThatAreOr_49 rfl (nI_1 (i + 1)) (by decide) rfl ?_
          refine g_goto 52 O 7 dX3_joiningsThatAreOr_52 (by decide) ?_
          refine g_sub [0, 1, 2, 3, 4] (lv' := [(4, .int (nI (i + 1 + 1))), (3, .int (nI (cn (fun j => y.2.2.2 (j + 1)) (i + 1)))), (2, .int (nI v)), (0, .ref (a 0)), (1, .int p0)]) rfl ?_
          exact ih7 (i + 1) v (by omega) (jo_step (by omega) hv hb (x := 0) (by rw [if_neg]; rw [jo, bi_f h29, Bool.false_and]; decide)).1 (jo_step (by omega) hv hb (x := 0) (by rw [if_neg]; rw [jo, bi_f h29, Bool.false_and]; decide)).2 (by omega)
        · -- not taken
          refine g_iload_n 32 O dX3_joiningsThatAreOr_32 rfl 2 rfl ?_
          refine g_iload_n 33 O dX3_joiningsThatAreOr_33 rfl 4 rfl ?_
          refine g_i2l 34 O dX3_joiningsThatAreOr_34 ?_
          refine g_iload_n 35 O dX3_joiningsThatAreOr_35 rfl 1 rfl ?_
          refine g_callN 36 O (na := 2) (av := [.long p0.toInt64, .int (nI (cn (fun j => y.2.2.2 (j + 1)) i))]) (c_X5_bitOf l E _ _ p0.toInt64 (nI (cn (fun j => y.2.2.2 (j + 1)) i))) (fun _ h => h.2.2.2.2.2.2.2.2.2.2.2.2.2.2.2.1) ks_X5_bitOf ki_X5 kc_X5_bitOf (by decide +kernel) rfl (Nat.le_of_ble_eq_true rfl) (Nat.le_of_ble_eq_true rfl) (fun _ h => h) (fun s => s) (fun _ _ _ _ h => h) rfl (Nat.le_of_ble_eq_true rfl) dX3_joiningsThatAreOr_36 (fun v9 s9 hv9 => ?_)
          obtain ⟨rfl, rfl⟩ := hv9
          refine g_iload 39 O dX3_joiningsThatAreOr_39 0 rfl ?_
          refine g_iconst 41 O (v := 1) dX3_joiningsThatAreOr_41 (by decide) ?_
          refine g_isub 42 O dX3_joiningsThatAreOr_42 ?_
          refine g_ishl 43 O dX3_joiningsThatAreOr_43 ?_
          refine g_ior 44 O dX3_joiningsThatAreOr_44 ?_
          refine g_si (nI (v + (if p.testBit (cn (fun j => y.2.2.2 (j + 1)) i) = true then 2 ^ i else 0))) (by rw [hp]; exact jo_or p hp8 _ hc3 i (by omega) v hv4 hv) ?_
          refine g_istore_n 45 O (lv' := [(2, .int (nI (v + (if p.testBit (cn (fun j => y.2.2.2 (j + 1)) i) = true then 2 ^ i else 0)))), (4, .int (nI (i + 1))), (3, .int (nI (cn (fun j => y.2.2.2 (j + 1)) i))), (0, .ref (a 0)), (1, .int p0)]) dX3_joiningsThatAreOr_45 rfl (by decide) rfl ?_
          refine g_iinc 46 O (v := nI (cn (fun j => y.2.2.2 (j + 1)) (i + 1))) (q := 2) (lv' := [(3, .int (nI (cn (fun j => y.2.2.2 (j + 1)) (i + 1)))), (2, .int (nI (v + (if p.testBit (cn (fun j => y.2.2.2 (j + 1)) i) = true then 2 ^ i else 0)))), (4, .int (nI (i + 1))), (0, .ref (a 0)), (1, .int p0)]) dX3_joiningsThatAreOr_46 rfl (cn_t (p := (fun j => y.2.2.2 (j + 1))) (bi_t h29)) (by decide) rfl ?_
          refine g_iinc 49 O (v := nI (i + 1 + 1)) (q := 2) (lv' := [(4, .int (nI (i + 1 + 1))), (3, .int (nI (cn (fun j => y.2.2.2 (j + 1)) (i + 1)))), (2, .int (nI (v + (if p.testBit (cn (fun j => y.2.2.2 (j + 1)) i) = true then 2 ^ i else 0)))), (0, .ref (a 0)), (1, .int p0)]) dX3_joiningsThatAreOr_49 rfl (nI_1 (i + 1)) (by decide) rfl ?_
          refine g_goto 52 O 7 dX3_joiningsThatAreOr_52 (by decide) ?_
          refine g_sub [0, 1, 2, 3, 4] (lv' := [(4, .int (nI (i + 1 + 1))), (3, .int (nI (cn (fun j => y.2.2.2 (j + 1)) (i + 1)))), (2, .int (nI (v + (if p.testBit (cn (fun j => y.2.2.2 (j + 1)) i) = true then 2 ^ i else 0)))), (0, .ref (a 0)), (1, .int p0)]) rfl ?_
          exact ih7 (i + 1) (v + (if p.testBit (cn (fun j => y.2.2.2 (j + 1)) i) = true then 2 ^ i else 0)) (by omega) (jo_step (by omega) hv hb (by rw [jo, bi_t h29, Bool.true_and])).1 (jo_step (by omega) hv hb (by rw [jo, bi_t h29, Bool.true_and])).2 (by omega)
  exact L7 _ 0 0 (Nat.zero_le _) Nat.zero_lt_one (fun k h => absurd h (Nat.not_lt_zero _)) (Nat.lt_succ_self _)

set_option maxRecDepth 100000 in
set_option maxHeartbeats 4000000 in
theorem c_X3_wordTruth (l : Launch) (E : Ev) (a : Nat → Nat) (R : va_W) (wd rd wi na : Int32) (so : Int64) (lt ng pl : Nat → Int32) (t1 t2 tr : Nat → Int64) (p0 p1 : Int32) (k c : Nat) (hp : p0 = nI k) (hk : k < 4) (hq : p1 = nI c) (hc : c < 16) : Ctr l yX3_wordTruth cX3_wordTruth 3 (some .long) 0 0 E (fun s => wS E a s ++ R) [.ref (a 0), .int p0, .int p1] (((wd, rd, wi, na, so), lt, ng, pl, t1, t2, tr)) (fun v8 s8 => v8 = some (.long (if c.testBit k = true then t2 k else t1 k)) ∧ s8 = ((wd, rd, wi, na, so), lt, ng, pl, t1, t2, tr)) := by
  refine Ctr.of' (by decide +kernel) (Nat.le_of_ble_eq_true rfl) (fun X P0 hP0 O => ?_)
  refine g_sub [0, 1, 2] (lv' := [(0, .ref (a 0)), (1, .int p0), (2, .int p1)]) rfl ?_
  refine g_iload_n 0 O dX3_wordTruth_0 rfl 1 rfl ?_
  refine g_if_lt 1 O 9 dX3_wordTruth_1 (by decide) (fun h1 => False.elim (absurd h1 (by rw [hp]; exact nI_pos (by omega)))) (fun h1 => ?_)
  refine g_iload_n 4 O dX3_wordTruth_4 rfl 1 rfl ?_
  refine g_iconst 5 O (v := 4) dX3_wordTruth_5 (by decide) ?_
  refine g_icmp_lt 6 O 11 dX3_wordTruth_6 (by decide) (fun h6 => ?_) (fun h6 => False.elim (h6 (by rw [hp]; exact nI_lt (b := 4) hk (by decide))))
  refine g_iload_n 11 O dX3_wordTruth_11 rfl 2 rfl ?_
  refine g_iconst 12 O (v := 1) dX3_wordTruth_12 (by decide) ?_
  refine g_iload_n 13 O dX3_wordTruth_13 rfl 1 rfl ?_
  refine g_ishl 14 O dX3_wordTruth_14 ?_
  refine g_iand 15 O dX3_wordTruth_15 ?_
  refine g_if_eq 16 O 28 dX3_wordTruth_16 (by decide) (fun h16 => ?_) (fun h16 => ?_)
  · -- taken
    refine g_aload_n 28 O dX3_wordTruth_28 rfl 0 rfl ?_
    refine g_get 29 O (v := .ref (a 4)) inX3 0 rfl rfl 3 (by decide) kf_X3_22 rfl dX3_wordTruth_29 ?_
    refine g_iload_n 32 O dX3_wordTruth_32 rfl 1 rfl ?_
    refine g_lald 33 O 4 k rfl (hp) (hk) (by decide) dX3_wordTruth_33 ?_
    exact g_lret 34 O dX3_wordTruth_34 (by rw [hP0]; rw [if_neg (by rw [(bit16 c hc k hk).mp (by rw [hp, hq] at h16; exact h16)]; decide)]; exact ⟨rfl, rfl⟩)
  · -- not taken
    refine g_aload_n 19 O dX3_wordTruth_19 rfl 0 rfl ?_
    refine g_get 20 O (v := .ref (a 5)) inX3 0 rfl rfl 4 (by decide) kf_X3_26 rfl dX3_wordTruth_20 ?_
    refine g_iload_n 23 O dX3_wordTruth_23 rfl 1 rfl ?_
    refine g_lald 24 O 5 k rfl (hp) (hk) (by decide) dX3_wordTruth_24 ?_
    refine g_goto 25 O 34 dX3_wordTruth_25 (by decide) ?_
    exact g_lret 34 O dX3_wordTruth_34 (by rw [hP0]; rw [if_pos (by cases e : c.testBit k with | true => rfl | false => exact absurd (by rw [hp, hq]; exact (bit16 c hc k hk).mpr e) h16)]; exact ⟨rfl, rfl⟩)

theorem c_X3_jb (l : Launch) (E : Ev) {T : Type} (w : T → va_W) (σ : T) (p0 p1 : Int32) (p2 p3 : Int64) (v k : Nat) (hv : v < 16) (hk : k < 4) (h0 : p0 = nI v) (h1 : p1 = nI k) : Ctr l yX3_joined cX3_joined 6 (some .long) 0 0 E w [.int p0, .int p1, .long p2, .long p3] σ (fun r s => r = some (.long (jn (v.testBit k) p2 p3)) ∧ s = σ) :=
  (c_X3_joined l E w σ p0 p1 p2 p3).mono (fun r s h => ⟨by rw [h.1, jn_ite hv hk h0 h1], h.2⟩)

set_option maxRecDepth 100000 in
set_option maxHeartbeats 4000000 in
theorem c_X3_truthOfThree (l : Launch) (E : Ev) (a : Nat → Nat) (R : va_W) (wd rd wi na : Int32) (so : Int64) (lt ng pl : Nat → Int32) (t1 t2 tr : Nat → Int64) (p0 p1 p2 : Int32) (b v c : Nat) (hb : p0 = nI b) (hb5 : b < 5) (hv : p1 = nI v) (hv8 : v < 8) (hq : p2 = nI c) (hc : c < 16) : Ctr l yX3_truthOfThree cX3_truthOfThree 10 (some .long) 1 25 E (fun s => wS E a s ++ R) [.ref (a 0), .int p0, .int p1, .int p2] (((wd, rd, wi, na, so), lt, ng, pl, t1, t2, tr)) (fun v8 s8 => v8 = some (.long (br3 b (fun k => v.testBit k) (fun k => if c.testBit k = true then t2 k else t1 k))) ∧ s8 = ((wd, rd, wi, na, so), lt, ng, pl, t1, t2, tr)) := by
  refine Ctr.of' (by decide +kernel) (Nat.le_of_ble_eq_true rfl) (fun X P0 hP0 O => ?_)
  refine g_sub [0, 1, 2, 3] (lv' := [(0, .ref (a 0)), (1, .int p0), (2, .int p1), (3, .int p2)]) rfl ?_
  refine g_aload_n 0 O dX3_truthOfThree_0 rfl 0 rfl ?_
  refine g_iconst 1 O (v := 0) dX3_truthOfThree_1 (by decide) ?_
  refine g_iload_n 2 O dX3_truthOfThree_2 rfl 3 rfl ?_
  refine g_callV 3 O (na := 2) (av := [.int 0, .int p2]) (c_X3_wordTruth l E a R wd rd wi na so lt ng pl t1 t2 tr 0 p2 0 c rfl (by decide) hq (by omega)) kl_X3_94 km_X3_wordTruth kv_X3_wordTruth ki_X3 kc_X3_wordTruth (by decide +kernel) rfl (Nat.le_of_ble_eq_true rfl) (Nat.le_of_ble_eq_true rfl) (fun _ h => h) 0 rfl rfl (fun s => s) (fun _ _ _ _ h => h) rfl (Nat.le_of_ble_eq_true rfl) dX3_truthOfThree_3 (fun v9 s9 hv9 => ?_)
  obtain ⟨rfl, rfl⟩ := hv9
  refine g_lstore 6 O (lv' := [(4, .long (if c.testBit 0 = true then t2 0 else t1 0)), (0, .ref (a 0)), (1, .int p0), (2, .int p1), (3, .int p2)]) dX3_truthOfThree_6 (by decide) rfl ?_
  refine g_aload_n 8 O dX3_truthOfThree_8 rfl 1 rfl ?_
  refine g_iconst 9 O (v := 1) dX3_truthOfThree_9 (by decide) ?_
  refine g_iload_n 10 O dX3_truthOfThree_10 rfl 4 rfl ?_
  refine g_callV 11 O (na := 2) (av := [.int 1, .int p2]) (c_X3_wordTruth l E a R wd rd wi na so lt ng pl t1 t2 tr 1 p2 1 c rfl (by decide) hq (by omega)) kl_X3_94 km_X3_wordTruth kv_X3_wordTruth ki_X3 kc_X3_wordTruth (by decide +kernel) rfl (Nat.le_of_ble_eq_true rfl) (Nat.le_of_ble_eq_true rfl) (fun _ h => h) 0 rfl rfl (fun s => s) (fun _ _ _ _ h => h) rfl (Nat.le_of_ble_eq_true rfl) dX3_truthOfThree_11 (fun v9 s9 hv9 => ?_)
  obtain ⟨rfl, rfl⟩ := hv9
  refine g_lstore 14 O (lv' := [(6, .long (if c.testBit 1 = true then t2 1 else t1 1)), (4, .long (if c.testBit 0 = true then t2 0 else t1 0)), (0, .ref (a 0)), (1, .int p0), (2, .int p1), (3, .int p2)]) dX3_truthOfThree_14 (by decide) rfl ?_
  refine g_aload_n 16 O dX3_truthOfThree_16 rfl 2 rfl ?_
  refine g_iconst 17 O (v := 2) dX3_truthOfThree_17 (by decide) ?_
  refine g_iload_n 18 O dX3_truthOfThree_18 rfl 5 rfl ?_
  refine g_callV 19 O (na := 2) (av := [.int 2, .int p2]) (c_X3_wordTruth l E a R wd rd wi na so lt ng pl t1 t2 tr 2 p2 2 c rfl (by decide) hq (by omega)) kl_X3_94 km_X3_wordTruth kv_X3_wordTruth ki_X3 kc_X3_wordTruth (by decide +kernel) rfl (Nat.le_of_ble_eq_true rfl) (Nat.le_of_ble_eq_true rfl) (fun _ h => h) 0 rfl rfl (fun s => s) (fun _ _ _ _ h => h) rfl (Nat.le_of_ble_eq_true rfl) dX3_truthOfThree_19 (fun v9 s9 hv9 => ?_)
  obtain ⟨rfl, rfl⟩ := hv9
  refine g_lstore 22 O (lv' := [(8, .long (if c.testBit 2 = true then t2 2 else t1 2)), (6, .long (if c.testBit 1 = true then t2 1 else t1 1)), (4, .long (if c.testBit 0 = true then t2 0 else t1 0)), (0, .ref (a 0)), (1, .int p0), (2, .int p1), (3, .int p2)]) dX3_truthOfThree_22 (by decide) rfl ?_
  refine g_iload_n 24 O dX3_truthOfThree_24 rfl 4 rfl ?_
  refine g_if_ne 25 O 45 dX3_truthOfThree_25 (by decide) (fun h25 => ?_) (fun h25 => ?_)
  · -- taken
    refine g_iload_n 45 O dX3_truthOfThree_45 rfl 5 rfl ?_
    refine g_iconst 46 O (v := 0) dX3_truthOfThree_46 (by decide) ?_
    refine g_lload 47 O dX3_truthOfThree_47 2 rfl ?_
    refine g_iload_n 49 O dX3_truthOfThree_49 rfl 5 rfl ?_
    refine g_iconst 50 O (v := 1) dX3_truthOfThree_50 (by decide) ?_
    refine g_lload 51 O dX3_truthOfThree_51 1 rfl ?_
    refine g_lload 53 O dX3_truthOfThree_53 0 rfl ?_
    refine g_callS 55 O (na := 4) (av := [.int p1, .int 1, .long (if c.testBit 1 = true then t2 1 else t1 1), .long (if c.testBit 2 = true then t2 2 else t1 2)]) (c_X3_jb l E _ _ p1 1 (if c.testBit 1 = true then t2 1 else t1 1) (if c.testBit 2 = true then t2 2 else t1 2) v 1 (by omega) (by decide) hv rfl) kl_X3_98 ks_X3_joined ki_X3 kc_X3_joined (by decide +kernel) rfl (Nat.le_of_ble_eq_true rfl) (Nat.le_of_ble_eq_true rfl) (fun _ h => h) (fun s => s) (fun _ _ _ _ h => h) rfl (Nat.le_of_ble_eq_true rfl) dX3_truthOfThree_55 (fun v9 s9 hv9 => ?_)
    obtain ⟨rfl, rfl⟩ := hv9
    refine g_callS 58 O (na := 4) (av := [.int p1, .int 0, .long (if c.testBit 0 = true then t2 0 else t1 0), .long (jn (v.testBit 1) (if c.testBit 1 = true then t2 1 else t1 1) (if c.testBit 2 = true then t2 2 else t1 2))]) (c_X3_jb l E _ _ p1 0 (if c.testBit 0 = true then t2 0 else t1 0) (jn (v.testBit 1) (if c.testBit 1 = true then t2 1 else t1 1) (if c.testBit 2 = true then t2 2 else t1 2)) v 0 (by omega) (by decide) hv rfl) kl_X3_98 ks_X3_joined ki_X3 kc_X3_joined (by decide +kernel) rfl (Nat.le_of_ble_eq_true rfl) (Nat.le_of_ble_eq_true rfl) (fun _ h => h) (fun s => s) (fun _ _ _ _ h => h) rfl (Nat.le_of_ble_eq_true rfl) dX3_truthOfThree_58 (fun v9 s9 hv9 => ?_)
    obtain ⟨rfl, rfl⟩ := hv9
    exact g_lret 61 O dX3_truthOfThree_61 (by rw [hP0, br3, if_neg (fun e => h25 (by rw [hb, e]; rfl))]; exact ⟨rfl, rfl⟩)
  · -- not taken
    refine g_iload_n 28 O dX3_truthOfThree_28 rfl 5 rfl ?_
    refine g_iconst 29 O (v := 1) dX3_truthOfThree_29 (by decide) ?_
    refine g_iload_n 30 O dX3_truthOfThree_30 rfl 5 rfl ?_
    refine g_iconst 31 O (v := 0) dX3_truthOfThree_31 (by decide) ?_
    refine g_lload 32 O dX3_truthOfThree_32 2 rfl ?_
    refine g_lload 34 O dX3_truthOfThree_34 1 rfl ?_
    refine g_callS 36 O (na := 4) (av := [.int p1, .int 0, .long (if c.testBit 0 = true then t2 0 else t1 0), .long (if c.testBit 1 = true then t2 1 else t1 1)]) (c_X3_jb l E _ _ p1 0 (if c.testBit 0 = true then t2 0 else t1 0) (if c.testBit 1 = true then t2 1 else t1 1) v 0 (by omega) (by decide) hv rfl) kl_X3_98 ks_X3_joined ki_X3 kc_X3_joined (by decide +kernel) rfl (Nat.le_of_ble_eq_true rfl) (Nat.le_of_ble_eq_true rfl) (fun _ h => h) (fun s => s) (fun _ _ _ _ h => h) rfl (Nat.le_of_ble_eq_true rfl) dX3_truthOfThree_36 (fun v9 s9 hv9 => ?_)
    obtain ⟨rfl, rfl⟩ := hv9
    refine g_lload 39 O dX3_truthOfThree_39 0 rfl ?_
    refine g_callS 41 O (na := 4) (av := [.int p1, .int 1, .long (jn (v.testBit 0) (if c.testBit 0 = true then t2 0 else t1 0) (if c.testBit 1 = true then t2 1 else t1 1)), .long (if c.testBit 2 = true then t2 2 else t1 2)]) (c_X3_jb l E _ _ p1 1 (jn (v.testBit 0) (if c.testBit 0 = true then t2 0 else t1 0) (if c.testBit 1 = true then t2 1 else t1 1)) (if c.testBit 2 = true then t2 2 else t1 2) v 1 (by omega) (by decide) hv rfl) kl_X3_98 ks_X3_joined ki_X3 kc_X3_joined (by decide +kernel) rfl (Nat.le_of_ble_eq_true rfl) (Nat.le_of_ble_eq_true rfl) (fun _ h => h) (fun s => s) (fun _ _ _ _ h => h) rfl (Nat.le_of_ble_eq_true rfl) dX3_truthOfThree_41 (fun v9 s9 hv9 => ?_)
    obtain ⟨rfl, rfl⟩ := hv9
    exact g_lret 44 O dX3_truthOfThree_44 (by rw [hP0, br3, if_pos (by rw [hb] at h25; exact (nI_eq (b := 0) (by omega) (by decide)).mp h25)]; exact ⟨rfl, rfl⟩)

set_option maxRecDepth 100000 in
set_option maxHeartbeats 4000000 in
theorem c_X3_truthOfFour (l : Launch) (E : Ev) (a : Nat → Nat) (R : va_W) (wd rd wi na : Int32) (so : Int64) (lt ng pl : Nat → Int32) (t1 t2 tr : Nat → Int64) (p0 p1 p2 : Int32) (b v c : Nat) (hb : p0 = nI b) (hb5 : b < 5) (hv : p1 = nI v) (hv8 : v < 8) (hq : p2 = nI c) (hc : c < 16) : Ctr l yX3_truthOfFour cX3_truthOfFour 12 (some .long) 1 25 E (fun s => wS E a s ++ R) [.ref (a 0), .int p0, .int p1, .int p2] (((wd, rd, wi, na, so), lt, ng, pl, t1, t2, tr)) (fun v8 s8 => v8 = some (.long (br4 b (fun k => v.testBit k) (fun k => if c.testBit k = true then t2 k else t1 k))) ∧ s8 = ((wd, rd, wi, na, so), lt, ng, pl, t1, t2, tr)) := by
  refine Ctr.of' (by decide +kernel) (Nat.le_of_ble_eq_true rfl) (fun X P0 hP0 O => ?_)
  refine g_sub [0, 1, 2, 3] (lv' := [(0, .ref (a 0)), (1, .int p0), (2, .int p1), (3, .int p2)]) rfl ?_
  refine g_aload_n 0 O dX3_truthOfFour_0 rfl 0 rfl ?_
  refine g_iconst 1 O (v := 0) dX3_truthOfFour_1 (by decide) ?_
  refine g_iload_n 2 O dX3_truthOfFour_2 rfl 3 rfl ?_
  refine g_callV 3 O (na := 2) (av := [.int 0, .int p2]) (c_X3_wordTruth l E a R wd rd wi na so lt ng pl t1 t2 tr 0 p2 0 c rfl (by decide) hq (by omega)) kl_X3_94 km_X3_wordTruth kv_X3_wordTruth ki_X3 kc_X3_wordTruth (by decide +kernel) rfl (Nat.le_of_ble_eq_true rfl) (Nat.le_of_ble_eq_true rfl) (fun _ h => h) 0 rfl rfl (fun s => s) (fun _ _ _ _ h => h) rfl (Nat.le_of_ble_eq_true rfl) dX3_truthOfFour_3 (fun v9 s9 hv9 => ?_)
  obtain ⟨rfl, rfl⟩ := hv9
  refine g_lstore 6 O (lv' := [(4, .long (if c.testBit 0 = true then t2 0 else t1 0)), (0, .ref (a 0)), (1, .int p0), (2, .int p1), (3, .int p2)]) dX3_truthOfFour_6 (by decide) rfl ?_
  refine g_aload_n 8 O dX3_truthOfFour_8 rfl 1 rfl ?_
  refine g_iconst 9 O (v := 1) dX3_truthOfFour_9 (by decide) ?_
  refine g_iload_n 10 O dX3_truthOfFour_10 rfl 4 rfl ?_
  refine g_callV 11 O (na := 2) (av := [.int 1, .int p2]) (c_X3_wordTruth l E a R wd rd wi na so lt ng pl t1 t2 tr 1 p2 1 c rfl (by decide) hq (by omega)) kl_X3_94 km_X3_wordTruth kv_X3_wordTruth ki_X3 kc_X3_wordTruth (by decide +kernel) rfl (Nat.le_of_ble_eq_true rfl) (Nat.le_of_ble_eq_true rfl) (fun _ h => h) 0 rfl rfl (fun s => s) (fun _ _ _ _ h => h) rfl (Nat.le_of_ble_eq_true rfl) dX3_truthOfFour_11 (fun v9 s9 hv9 => ?_)
  obtain ⟨rfl, rfl⟩ := hv9
  refine g_lstore 14 O (lv' := [(6, .long (if c.testBit 1 = true then t2 1 else t1 1)), (4, .long (if c.testBit 0 = true then t2 0 else t1 0)), (0, .ref (a 0)), (1, .int p0), (2, .int p1), (3, .int p2)]) dX3_truthOfFour_14 (by decide) rfl ?_
  refine g_aload_n 16 O dX3_truthOfFour_16 rfl 2 rfl ?_
  refine g_iconst 17 O (v := 2) dX3_truthOfFour_17 (by decide) ?_
  refine g_iload_n 18 O dX3_truthOfFour_18 rfl 5 rfl ?_
  refine g_callV 19 O (na := 2) (av := [.int 2, .int p2]) (c_X3_wordTruth l E a R wd rd wi na so lt ng pl t1 t2 tr 2 p2 2 c rfl (by decide) hq (by omega)) kl_X3_94 km_X3_wordTruth kv_X3_wordTruth ki_X3 kc_X3_wordTruth (by decide +kernel) rfl (Nat.le_of_ble_eq_true rfl) (Nat.le_of_ble_eq_true rfl) (fun _ h => h) 0 rfl rfl (fun s => s) (fun _ _ _ _ h => h) rfl (Nat.le_of_ble_eq_true rfl) dX3_truthOfFour_19 (fun v9 s9 hv9 => ?_)
  obtain ⟨rfl, rfl⟩ := hv9
  refine g_lstore 22 O (lv' := [(8, .long (if c.testBit 2 = true then t2 2 else t1 2)), (6, .long (if c.testBit 1 = true then t2 1 else t1 1)), (4, .long (if c.testBit 0 = true then t2 0 else t1 0)), (0, .ref (a 0)), (1, .int p0), (2, .int p1), (3, .int p2)]) dX3_truthOfFour_22 (by decide) rfl ?_
  refine g_aload_n 24 O dX3_truthOfFour_24 rfl 3 rfl ?_
  refine g_iconst 25 O (v := 3) dX3_truthOfFour_25 (by decide) ?_
  refine g_iload_n 26 O dX3_truthOfFour_26 rfl 6 rfl ?_
  refine g_callV 27 O (na := 2) (av := [.int 3, .int p2]) (c_X3_wordTruth l E a R wd rd wi na so lt ng pl t1 t2 tr 3 p2 3 c rfl (by decide) hq (by omega)) kl_X3_94 km_X3_wordTruth kv_X3_wordTruth ki_X3 kc_X3_wordTruth (by decide +kernel) rfl (Nat.le_of_ble_eq_true rfl) (Nat.le_of_ble_eq_true rfl) (fun _ h => h) 0 rfl rfl (fun s => s) (fun _ _ _ _ h => h) rfl (Nat.le_of_ble_eq_true rfl) dX3_truthOfFour_27 (fun v9 s9 hv9 => ?_)
  obtain ⟨rfl, rfl⟩ := hv9
  refine g_lstore 30 O (lv' := [(10, .long (if c.testBit 3 = true then t2 3 else t1 3)), (8, .long (if c.testBit 2 = true then t2 2 else t1 2)), (6, .long (if c.testBit 1 = true then t2 1 else t1 1)), (4, .long (if c.testBit 0 = true then t2 0 else t1 0)), (0, .ref (a 0)), (1, .int p0), (2, .int p1), (3, .int p2)]) dX3_truthOfFour_30 (by decide) rfl ?_
  refine g_iload_n 32 O dX3_truthOfFour_32 rfl 5 rfl ?_
  have h5 : b = 0 ∨ b = 1 ∨ b = 2 ∨ b = 3 ∨ b = 4 := by omega
  rcases h5 with rfl | rfl | rfl | rfl | rfl
  ·
    refine g_si 0 (hb) ?_
    refine g_tabIn 33 O 64 dX3_truthOfFour_33 (by decide) (by decide) rfl (by decide) ?_
    refine g_iload_n 64 O dX3_truthOfFour_64 rfl 6 rfl ?_
    refine g_iconst 65 O (v := 2) dX3_truthOfFour_65 (by decide) ?_
    refine g_iload_n 66 O dX3_truthOfFour_66 rfl 6 rfl ?_
    refine g_iconst 67 O (v := 1) dX3_truthOfFour_67 (by decide) ?_
    refine g_iload_n 68 O dX3_truthOfFour_68 rfl 6 rfl ?_
    refine g_iconst 69 O (v := 0) dX3_truthOfFour_69 (by decide) ?_
    refine g_lload 70 O dX3_truthOfFour_70 3 rfl ?_
    refine g_lload 72 O dX3_truthOfFour_72 2 rfl ?_
    refine g_callS 74 O (na := 4) (av := [.int p1, .int 0, .long (if c.testBit 0 = true then t2 0 else t1 0), .long (if c.testBit 1 = true then t2 1 else t1 1)]) (c_X3_jb l E _ _ p1 0 (if c.testBit 0 = true then t2 0 else t1 0) (if c.testBit 1 = true then t2 1 else t1 1) v 0 (by omega) (by decide) hv rfl) kl_X3_98 ks_X3_joined ki_X3 kc_X3_joined (by decide +kernel) rfl (Nat.le_of_ble_eq_true rfl) (Nat.le_of_ble_eq_true rfl) (fun _ h => h) (fun s => s) (fun _ _ _ _ h => h) rfl (Nat.le_of_ble_eq_true rfl) dX3_truthOfFour_74 (fun v9 s9 hv9 => ?_)
    obtain ⟨rfl, rfl⟩ := hv9
    refine g_lload 77 O dX3_truthOfFour_77 1 rfl ?_
    refine g_callS 79 O (na := 4) (av := [.int p1, .int 1, .long (jn (v.testBit 0) (if c.testBit 0 = true then t2 0 else t1 0) (if c.testBit 1 = true then t2 1 else t1 1)), .long (if c.testBit 2 = true then t2 2 else t1 2)]) (c_X3_jb l E _ _ p1 1 (jn (v.testBit 0) (if c.testBit 0 = true then t2 0 else t1 0) (if c.testBit 1 = true then t2 1 else t1 1)) (if c.testBit 2 = true then t2 2 else t1 2) v 1 (by omega) (by decide) hv rfl) kl_X3_98 ks_X3_joined ki_X3 kc_X3_joined (by decide +kernel) rfl (Nat.le_of_ble_eq_true rfl) (Nat.le_of_ble_eq_true rfl) (fun _ h => h) (fun s => s) (fun _ _ _ _ h => h) rfl (Nat.le_of_ble_eq_true rfl) dX3_truthOfFour_79 (fun v9 s9 hv9 => ?_)
    obtain ⟨rfl, rfl⟩ := hv9
    refine g_lload 82 O dX3_truthOfFour_82 0 rfl ?_
    refine g_callS 84 O (na := 4) (av := [.int p1, .int 2, .long (jn (v.testBit 1) (jn (v.testBit 0) (if c.testBit 0 = true then t2 0 else t1 0) (if c.testBit 1 = true then t2 1 else t1 1)) (if c.testBit 2 = true then t2 2 else t1 2)), .long (if c.testBit 3 = true then t2 3 else t1 3)]) (c_X3_jb l E _ _ p1 2 (jn (v.testBit 1) (jn (v.testBit 0) (if c.testBit 0 = true then t2 0 else t1 0) (if c.testBit 1 = true then t2 1 else t1 1)) (if c.testBit 2 = true then t2 2 else t1 2)) (if c.testBit 3 = true then t2 3 else t1 3) v 2 (by omega) (by decide) hv rfl) kl_X3_98 ks_X3_joined ki_X3 kc_X3_joined (by decide +kernel) rfl (Nat.le_of_ble_eq_true rfl) (Nat.le_of_ble_eq_true rfl) (fun _ h => h) (fun s => s) (fun _ _ _ _ h => h) rfl (Nat.le_of_ble_eq_true rfl) dX3_truthOfFour_84 (fun v9 s9 hv9 => ?_)
    obtain ⟨rfl, rfl⟩ := hv9
    exact g_lret 87 O dX3_truthOfFour_87 (by rw [hP0]; exact ⟨rfl, rfl⟩)
  ·
    refine g_si 1 (hb) ?_
    refine g_tabIn 33 O 88 dX3_truthOfFour_33 (by decide) (by decide) rfl (by decide) ?_
    refine g_iload_n 88 O dX3_truthOfFour_88 rfl 6 rfl ?_
    refine g_iconst 89 O (v := 2) dX3_truthOfFour_89 (by decide) ?_
    refine g_iload_n 90 O dX3_truthOfFour_90 rfl 6 rfl ?_
    refine g_iconst 91 O (v := 0) dX3_truthOfFour_91 (by decide) ?_
    refine g_lload 92 O dX3_truthOfFour_92 3 rfl ?_
    refine g_iload_n 94 O dX3_truthOfFour_94 rfl 6 rfl ?_
    refine g_iconst 95 O (v := 1) dX3_truthOfFour_95 (by decide) ?_
    refine g_lload 96 O dX3_truthOfFour_96 2 rfl ?_
    refine g_lload 98 O dX3_truthOfFour_98 1 rfl ?_
    refine g_callS 100 O (na := 4) (av := [.int p1, .int 1, .long (if c.testBit 1 = true then t2 1 else t1 1), .long (if c.testBit 2 = true then t2 2 else t1 2)]) (c_X3_jb l E _ _ p1 1 (if c.testBit 1 = true then t2 1 else t1 1) (if c.testBit 2 = true then t2 2 else t1 2) v 1 (by omega) (by decide) hv rfl) kl_X3_98 ks_X3_joined ki_X3 kc_X3_joined (by decide +kernel) rfl (Nat.le_of_ble_eq_true rfl) (Nat.le_of_ble_eq_true rfl) (fun _ h => h) (fun s => s) (fun _ _ _ _ h => h) rfl (Nat.le_of_ble_eq_true rfl) dX3_truthOfFour_100 (fun v9 s9 hv9 => ?_)
    obtain ⟨rfl, rfl⟩ := hv9
    refine g_callS 103 O (na := 4) (av := [.int p1, .int 0, .long (if c.testBit 0 = true then t2 0 else t1 0), .long (jn (v.testBit 1) (if c.testBit 1 = true then t2 1 else t1 1) (if c.testBit 2 = true then t2 2 else t1 2))]) (c_X3_jb l E _ _ p1 0 (if c.testBit 0 = true then t2 0 else t1 0) (jn (v.testBit 1) (if c.testBit 1 = true then t2 1 else t1 1) (if c.testBit 2 = true then t2 2 else t1 2)) v 0 (by omega) (by decide) hv rfl) kl_X3_98 ks_X3_joined ki_X3 kc_X3_joined (by decide +kernel) rfl (Nat.le_of_ble_eq_true rfl) (Nat.le_of_ble_eq_true rfl) (fun _ h => h) (fun s => s) (fun _ _ _ _ h => h) rfl (Nat.le_of_ble_eq_true rfl) dX3_truthOfFour_103 (fun v9 s9 hv9 => ?_)
    obtain ⟨rfl, rfl⟩ := hv9
    refine g_lload 106 O dX3_truthOfFour_106 0 rfl ?_
    refine g_callS 108 O (na := 4) (av := [.int p1, .int 2, .long (jn (v.testBit 0) (if c.testBit 0 = true then t2 0 else t1 0) (jn (v.testBit 1) (if c.testBit 1 = true then t2 1 else t1 1) (if c.testBit 2 = true then t2 2 else t1 2))), .long (if c.testBit 3 = true then t2 3 else t1 3)]) (c_X3_jb l E _ _ p1 2 (jn (v.testBit 0) (if c.testBit 0 = true then t2 0 else t1 0) (jn (v.testBit 1) (if c.testBit 1 = true then t2 1 else t1 1) (if c.testBit 2 = true then t2 2 else t1 2))) (if c.testBit 3 = true then t2 3 else t1 3) v 2 (by omega) (by decide) hv rfl) kl_X3_98 ks_X3_joined ki_X3 kc_X3_joined (by decide +kernel) rfl (Nat.le_of_ble_eq_true rfl) (Nat.le_of_ble_eq_true rfl) (fun _ h => h) (fun s => s) (fun _ _ _ _ h => h) rfl (Nat.le_of_ble_eq_true rfl) dX3_truthOfFour_108 (fun v9 s9 hv9 => ?_)
    obtain ⟨rfl, rfl⟩ := hv9
    exact g_lret 111 O dX3_truthOfFour_111 (by rw [hP0]; exact ⟨rfl, rfl⟩)
  ·
    refine g_si 2 (hb) ?_
    refine g_tabIn 33 O 112 dX3_truthOfFour_33 (by decide) (by decide) rfl (by decide) ?_
    refine g_iload_n 112 O dX3_truthOfFour_112 rfl 6 rfl ?_
    refine g_iconst 113 O (v := 1) dX3_truthOfFour_113 (by decide) ?_
    refine g_iload_n 114 O dX3_truthOfFour_114 rfl 6 rfl ?_
    refine g_iconst 115 O (v := 0) dX3_truthOfFour_115 (by decide) ?_
    refine g_lload 116 O dX3_truthOfFour_116 3 rfl ?_
    refine g_lload 118 O dX3_truthOfFour_118 2 rfl ?_
    refine g_callS 120 O (na := 4) (av := [.int p1, .int 0, .long (if c.testBit 0 = true then t2 0 else t1 0), .long (if c.testBit 1 = true then t2 1 else t1 1)]) (c_X3_jb l E _ _ p1 0 (if c.testBit 0 = true then t2 0 else t1 0) (if c.testBit 1 = true then t2 1 else t1 1) v 0 (by omega) (by decide) hv rfl) kl_X3_98 ks_X3_joined ki_X3 kc_X3_joined (by decide +kernel) rfl (Nat.le_of_ble_eq_true rfl) (Nat.le_of_ble_eq_true rfl) (fun _ h => h) (fun s => s) (fun _ _ _ _ h => h) rfl (Nat.le_of_ble_eq_true rfl) dX3_truthOfFour_120 (fun v9 s9 hv9 => ?_)
    obtain ⟨rfl, rfl⟩ := hv9
    refine g_iload_n 123 O dX3_truthOfFour_123 rfl 6 rfl ?_
    refine g_iconst 124 O (v := 2) dX3_truthOfFour_124 (by decide) ?_
    refine g_lload 125 O dX3_truthOfFour_125 1 rfl ?_
    refine g_lload 127 O dX3_truthOfFour_127 0 rfl ?_
    refine g_callS 129 O (na := 4) (av := [.int p1, .int 2, .long (if c.testBit 2 = true then t2 2 else t1 2), .long (if c.testBit 3 = true then t2 3 else t1 3)]) (c_X3_jb l E _ _ p1 2 (if c.testBit 2 = true then t2 2 else t1 2) (if c.testBit 3 = true then t2 3 else t1 3) v 2 (by omega) (by decide) hv rfl) kl_X3_98 ks_X3_joined ki_X3 kc_X3_joined (by decide +kernel) rfl (Nat.le_of_ble_eq_true rfl) (Nat.le_of_ble_eq_true rfl) (fun _ h => h) (fun s => s) (fun _ _ _ _ h => h) rfl (Nat.le_of_ble_eq_true rfl) dX3_truthOfFour_129 (fun v9 s9 hv9 => ?_)
    obtain ⟨rfl, rfl⟩ := hv9
    refine g_callS 132 O (na := 4) (av := [.int p1, .int 1, .long (jn (v.testBit 0) (if c.testBit 0 = true then t2 0 else t1 0) (if c.testBit 1 = true then t2 1 else t1 1)), .long (jn (v.testBit 2) (if c.testBit 2 = true then t2 2 else t1 2) (if c.testBit 3 = true then t2 3 else t1 3))]) (c_X3_jb l E _ _ p1 1 (jn (v.testBit 0) (if c.testBit 0 = true then t2 0 else t1 0) (if c.testBit 1 = true then t2 1 else t1 1)) (jn (v.testBit 2) (if c.testBit 2 = true then t2 2 else t1 2) (if c.testBit 3 = true then t2 3 else t1 3)) v 1 (by omega) (by decide) hv rfl) kl_X3_98 ks_X3_joined ki_X3 kc_X3_joined (by decide +kernel) rfl (Nat.le_of_ble_eq_true rfl) (Nat.le_of_ble_eq_true rfl) (fun _ h => h) (fun s => s) (fun _ _ _ _ h => h) rfl (Nat.le_of_ble_eq_true rfl) dX3_truthOfFour_132 (fun v9 s9 hv9 => ?_)
    obtain ⟨rfl, rfl⟩ := hv9
    exact g_lret 135 O dX3_truthOfFour_135 (by rw [hP0]; exact ⟨rfl, rfl⟩)
  ·
    refine g_si 3 (hb) ?_
    refine g_tabIn 33 O 136 dX3_truthOfFour_33 (by decide) (by decide) rfl (by decide) ?_
    refine g_iload_n 136 O dX3_truthOfFour_136 rfl 6 rfl ?_
    refine g_iconst 137 O (v := 0) dX3_truthOfFour_137 (by decide) ?_
    refine g_lload 138 O dX3_truthOfFour_138 3 rfl ?_
    refine g_iload_n 140 O dX3_truthOfFour_140 rfl 6 rfl ?_
    refine g_iconst 141 O (v := 2) dX3_truthOfFour_141 (by decide) ?_
    refine g_iload_n 142 O dX3_truthOfFour_142 rfl 6 rfl ?_
    refine g_iconst 143 O (v := 1) dX3_truthOfFour_143 (by decide) ?_
    refine g_lload 144 O dX3_truthOfFour_144 2 rfl ?_
    refine g_lload 146 O dX3_truthOfFour_146 1 rfl ?_
    refine g_callS 148 O (na := 4) (av := [.int p1, .int 1, .long (if c.testBit 1 = true then t2 1 else t1 1), .long (if c.testBit 2 = true then t2 2 else t1 2)]) (c_X3_jb l E _ _ p1 1 (if c.testBit 1 = true then t2 1 else t1 1) (if c.testBit 2 = true then t2 2 else t1 2) v 1 (by omega) (by decide) hv rfl) kl_X3_98 ks_X3_joined ki_X3 kc_X3_joined (by decide +kernel) rfl (Nat.le_of_ble_eq_true rfl) (Nat.le_of_ble_eq_true rfl) (fun _ h => h) (fun s => s) (fun _ _ _ _ h => h) rfl (Nat.le_of_ble_eq_true rfl) dX3_truthOfFour_148 (fun v9 s9 hv9 => ?_)
    obtain ⟨rfl, rfl⟩ := hv9
    refine g_lload 151 O dX3_truthOfFour_151 0 rfl ?_
    refine g_callS 153 O (na := 4) (av := [.int p1, .int 2, .long (jn (v.testBit 1) (if c.testBit 1 = true then t2 1 else t1 1) (if c.testBit 2 = true then t2 2 else t1 2)), .long (if c.testBit 3 = true then t2 3 else t1 3)]) (c_X3_jb l E _ _ p1 2 (jn (v.testBit 1) (if c.testBit 1 = true then t2 1 else t1 1) (if c.testBit 2 = true then t2 2 else t1 2)) (if c.testBit 3 = true then t2 3 else t1 3) v 2 (by omega) (by decide) hv rfl) kl_X3_98 ks_X3_joined ki_X3 kc_X3_joined (by decide +kernel) rfl (Nat.le_of_ble_eq_true rfl) (Nat.le_of_ble_eq_true rfl) (fun _ h => h) (fun s => s) (fun _ _ _ _ h => h) rfl (Nat.le_of_ble_eq_true rfl) dX3_truthOfFour_153 (fun v9 s9 hv9 => ?_)
    obtain ⟨rfl, rfl⟩ := hv9
    refine g_callS 156 O (na := 4) (av := [.int p1, .int 0, .long (if c.testBit 0 = true then t2 0 else t1 0), .long (jn (v.testBit 2) (jn (v.testBit 1) (if c.testBit 1 = true then t2 1 else t1 1) (if c.testBit 2 = true then t2 2 else t1 2)) (if c.testBit 3 = true then t2 3 else t1 3))]) (c_X3_jb l E _ _ p1 0 (if c.testBit 0 = true then t2 0 else t1 0) (jn (v.testBit 2) (jn (v.testBit 1) (if c.testBit 1 = true then t2 1 else t1 1) (if c.testBit 2 = true then t2 2 else t1 2)) (if c.testBit 3 = true then t2 3 else t1 3)) v 0 (by omega) (by decide) hv rfl) kl_X3_98 ks_X3_joined ki_X3 kc_X3_joined (by decide +kernel) rfl (Nat.le_of_ble_eq_true rfl) (Nat.le_of_ble_eq_true rfl) (fun _ h => h) (fun s => s) (fun _ _ _ _ h => h) rfl (Nat.le_of_ble_eq_true rfl) dX3_truthOfFour_156 (fun v9 s9 hv9 => ?_)
    obtain ⟨rfl, rfl⟩ := hv9
    exact g_lret 159 O dX3_truthOfFour_159 (by rw [hP0]; exact ⟨rfl, rfl⟩)
  ·
    refine g_tabOut 33 O 160 dX3_truthOfFour_33 (Or.inr (by rw [hb]; decide)) (by decide) ?_
    refine g_iload_n 160 O dX3_truthOfFour_160 rfl 6 rfl ?_
    refine g_iconst 161 O (v := 0) dX3_truthOfFour_161 (by decide) ?_
    refine g_lload 162 O dX3_truthOfFour_162 3 rfl ?_
    refine g_iload_n 164 O dX3_truthOfFour_164 rfl 6 rfl ?_
    refine g_iconst 165 O (v := 1) dX3_truthOfFour_165 (by decide) ?_
    refine g_lload 166 O dX3_truthOfFour_166 2 rfl ?_
    refine g_iload_n 168 O dX3_truthOfFour_168 rfl 6 rfl ?_
    refine g_iconst 169 O (v := 2) dX3_truthOfFour_169 (by decide) ?_
    refine g_lload 170 O dX3_truthOfFour_170 1 rfl ?_
    refine g_lload 172 O dX3_truthOfFour_172 0 rfl ?_
    refine g_callS 174 O (na := 4) (av := [.int p1, .int 2, .long (if c.testBit 2 = true then t2 2 else t1 2), .long (if c.testBit 3 = true then t2 3 else t1 3)]) (c_X3_jb l E _ _ p1 2 (if c.testBit 2 = true then t2 2 else t1 2) (if c.testBit 3 = true then t2 3 else t1 3) v 2 (by omega) (by decide) hv rfl) kl_X3_98 ks_X3_joined ki_X3 kc_X3_joined (by decide +kernel) rfl (Nat.le_of_ble_eq_true rfl) (Nat.le_of_ble_eq_true rfl) (fun _ h => h) (fun s => s) (fun _ _ _ _ h => h) rfl (Nat.le_of_ble_eq_true rfl) dX3_truthOfFour_174 (fun v9 s9 hv9 => ?_)
    obtain ⟨rfl, rfl⟩ := hv9
    refine g_callS 177 O (na := 4) (av := [.int p1, .int 1, .long (if c.testBit 1 = true then t2 1 else t1 1), .long (jn (v.testBit 2) (if c.testBit 2 = true then t2 2 else t1 2) (if c.testBit 3 = true then t2 3 else t1 3))]) (c_X3_jb l E _ _ p1 1 (if c.testBit 1 = true then t2 1 else t1 1) (jn (v.testBit 2) (if c.testBit 2 = true then t2 2 else t1 2) (if c.testBit 3 = true then t2 3 else t1 3)) v 1 (by omega) (by decide) hv rfl) kl_X3_98 ks_X3_joined ki_X3 kc_X3_joined (by decide +kernel) rfl (Nat.le_of_ble_eq_true rfl) (Nat.le_of_ble_eq_true rfl) (fun _ h => h) (fun s => s) (fun _ _ _ _ h => h) rfl (Nat.le_of_ble_eq_true rfl) dX3_truthOfFour_177 (fun v9 s9 hv9 => ?_)
    obtain ⟨rfl, rfl⟩ := hv9
    refine g_callS 180 O (na := 4) (av := [.int p1, .int 0, .long (if c.testBit 0 = true then t2 0 else t1 0), .long (jn (v.testBit 1) (if c.testBit 1 = true then t2 1 else t1 1) (jn (v.testBit 2) (if c.testBit 2 = true then t2 2 else t1 2) (if c.testBit 3 = true then t2 3 else t1 3)))]) (c_X3_jb l E _ _ p1 0 (if c.testBit 0 = true then t2 0 else t1 0) (jn (v.testBit 1) (if c.testBit 1 = true then t2 1 else t1 1) (jn (v.testBit 2) (if c.testBit 2 = true then t2 2 else t1 2) (if c.testBit 3 = true then t2 3 else t1 3))) v 0 (by omega) (by decide) hv rfl) kl_X3_98 ks_X3_joined ki_X3 kc_X3_joined (by decide +kernel) rfl (Nat.le_of_ble_eq_true rfl) (Nat.le_of_ble_eq_true rfl) (fun _ h => h) (fun s => s) (fun _ _ _ _ h => h) rfl (Nat.le_of_ble_eq_true rfl) dX3_truthOfFour_180 (fun v9 s9 hv9 => ?_)
    obtain ⟨rfl, rfl⟩ := hv9
    exact g_lret 183 O dX3_truthOfFour_183 (by rw [hP0]; exact ⟨rfl, rfl⟩)

set_option maxRecDepth 100000 in
set_option maxHeartbeats 4000000 in
theorem c_X3_truthOf (l : Launch) (E : Ev) (a : Nat → Nat) (R : va_W) (wd rd wi na : Int32) (so : Int64) (lt ng pl : Nat → Int32) (t1 t2 tr : Nat → Int64) (p0 p1 p2 : Int32) (n : Nat) (hwd : wd = nI n) (h0 : 0 < n) (hn4 : n ≤ 4) (b v c : Nat) (hb : p0 = nI b) (hb5 : b < 5) (hv : p1 = nI v) (hv8 : v < 8) (hq : p2 = nI c) (hc : c < 16) : Ctr l yX3_truthOf cX3_truthOf 4 (some .long) 2 56 E (fun s => wS E a s ++ R) [.ref (a 0), .int p0, .int p1, .int p2] (((wd, rd, wi, na, so), lt, ng, pl, t1, t2, tr)) (fun v8 s8 => v8 = some (.long (brk n b (fun k => v.testBit k) (fun k => if c.testBit k = true then t2 k else t1 k))) ∧ s8 = ((wd, rd, wi, na, so), lt, ng, pl, t1, t2, tr)) := by
  refine Ctr.of' (by decide +kernel) (Nat.le_of_ble_eq_true rfl) (fun X P0 hP0 O => ?_)
  refine g_sub [0, 1, 2, 3] (lv' := [(0, .ref (a 0)), (1, .int p0), (2, .int p1), (3, .int p2)]) rfl ?_
  refine g_aload_n 0 O dX3_truthOf_0 rfl 0 rfl ?_
  refine g_get 1 O (v := .int wd) inX3 0 rfl rfl 6 (by decide) kf_X3_32 rfl dX3_truthOf_1 ?_
  have h5 : n = 1 ∨ n = 2 ∨ n = 3 ∨ n = 4 := by omega
  rcases h5 with rfl | rfl | rfl | rfl
  ·
    refine g_si 1 (hwd) ?_
    refine g_tabIn 4 O 32 dX3_truthOf_4 (by decide) (by decide) rfl (by decide) ?_
    refine g_aload_n 32 O dX3_truthOf_32 rfl 0 rfl ?_
    refine g_iconst 33 O (v := 0) dX3_truthOf_33 (by decide) ?_
    refine g_iload_n 34 O dX3_truthOf_34 rfl 3 rfl ?_
    refine g_callV 35 O (na := 2) (av := [.int 0, .int p2]) (c_X3_wordTruth l E a R wd rd wi na so lt ng pl t1 t2 tr 0 p2 0 c rfl (by decide) hq (by omega)) kl_X3_94 km_X3_wordTruth kv_X3_wordTruth ki_X3 kc_X3_wordTruth (by decide +kernel) rfl (Nat.le_of_ble_eq_true rfl) (Nat.le_of_ble_eq_true rfl) (fun _ h => h) 0 rfl rfl (fun s => s) (fun _ _ _ _ h => h) rfl (Nat.le_of_ble_eq_true rfl) dX3_truthOf_35 (fun v9 s9 hv9 => ?_)
    obtain ⟨rfl, rfl⟩ := hv9
    exact g_lret 38 O dX3_truthOf_38 (by rw [hP0]; exact ⟨rfl, rfl⟩)
  ·
    refine g_si 2 (hwd) ?_
    refine g_tabIn 4 O 39 dX3_truthOf_4 (by decide) (by decide) rfl (by decide) ?_
    refine g_iload_n 39 O dX3_truthOf_39 rfl 2 rfl ?_
    refine g_iconst 40 O (v := 0) dX3_truthOf_40 (by decide) ?_
    refine g_aload_n 41 O dX3_truthOf_41 rfl 0 rfl ?_
    refine g_iconst 42 O (v := 0) dX3_truthOf_42 (by decide) ?_
    refine g_iload_n 43 O dX3_truthOf_43 rfl 3 rfl ?_
    refine g_callV 44 O (na := 2) (av := [.int 0, .int p2]) (c_X3_wordTruth l E a R wd rd wi na so lt ng pl t1 t2 tr 0 p2 0 c rfl (by decide) hq (by omega)) kl_X3_94 km_X3_wordTruth kv_X3_wordTruth ki_X3 kc_X3_wordTruth (by decide +kernel) rfl (Nat.le_of_ble_eq_true rfl) (Nat.le_of_ble_eq_true rfl) (fun _ h => h) 0 rfl rfl (fun s => s) (fun _ _ _ _ h => h) rfl (Nat.le_of_ble_eq_true rfl) dX3_truthOf_44 (fun v9 s9 hv9 => ?_)
    obtain ⟨rfl, rfl⟩ := hv9
    refine g_aload_n 47 O dX3_truthOf_47 rfl 0 rfl ?_
    refine g_iconst 48 O (v := 1) dX3_truthOf_48 (by decide) ?_
    refine g_iload_n 49 O dX3_truthOf_49 rfl 3 rfl ?_
    refine g_callV 50 O (na := 2) (av := [.int 1, .int p2]) (c_X3_wordTruth l E a R wd rd wi na so lt ng pl t1 t2 tr 1 p2 1 c rfl (by decide) hq (by omega)) kl_X3_94 km_X3_wordTruth kv_X3_wordTruth ki_X3 kc_X3_wordTruth (by decide +kernel) rfl (Nat.le_of_ble_eq_true rfl) (Nat.le_of_ble_eq_true rfl) (fun _ h => h) 0 rfl rfl (fun s => s) (fun _ _ _ _ h => h) rfl (Nat.le_of_ble_eq_true rfl) dX3_truthOf_50 (fun v9 s9 hv9 => ?_)
    obtain ⟨rfl, rfl⟩ := hv9
    refine g_callS 53 O (na := 4) (av := [.int p1, .int 0, .long (if c.testBit 0 = true then t2 0 else t1 0), .long (if c.testBit 1 = true then t2 1 else t1 1)]) (c_X3_jb l E _ _ p1 0 (if c.testBit 0 = true then t2 0 else t1 0) (if c.testBit 1 = true then t2 1 else t1 1) v 0 (by omega) (by decide) hv rfl) kl_X3_98 ks_X3_joined ki_X3 kc_X3_joined (by decide +kernel) rfl (Nat.le_of_ble_eq_true rfl) (Nat.le_of_ble_eq_true rfl) (fun _ h => h) (fun s => s) (fun _ _ _ _ h => h) rfl (Nat.le_of_ble_eq_true rfl) dX3_truthOf_53 (fun v9 s9 hv9 => ?_)
    obtain ⟨rfl, rfl⟩ := hv9
    exact g_lret 56 O dX3_truthOf_56 (by rw [hP0]; exact ⟨rfl, rfl⟩)
  ·
    refine g_si 3 (hwd) ?_
    refine g_tabIn 4 O 57 dX3_truthOf_4 (by decide) (by decide) rfl (by decide) ?_
    refine g_aload_n 57 O dX3_truthOf_57 rfl 0 rfl ?_
    refine g_iload_n 58 O dX3_truthOf_58 rfl 1 rfl ?_
    refine g_iload_n 59 O dX3_truthOf_59 rfl 2 rfl ?_
    refine g_iload_n 60 O dX3_truthOf_60 rfl 3 rfl ?_
    refine g_callV 61 O (na := 3) (av := [.int p0, .int p1, .int p2]) (c_X3_truthOfThree l E a R wd rd wi na so lt ng pl t1 t2 tr p0 p1 p2 b v c hb hb5 hv hv8 hq hc) kl_X3_102 km_X3_truthOfThree kv_X3_truthOfThree ki_X3 kc_X3_truthOfThree (by decide +kernel) rfl (Nat.le_of_ble_eq_true rfl) (Nat.le_of_ble_eq_true rfl) (fun _ h => h) 0 rfl rfl (fun s => s) (fun _ _ _ _ h => h) rfl (Nat.le_of_ble_eq_true rfl) dX3_truthOf_61 (fun v9 s9 hv9 => ?_)
    obtain ⟨rfl, rfl⟩ := hv9
    exact g_lret 64 O dX3_truthOf_64 (by rw [hP0]; exact ⟨rfl, rfl⟩)
  ·
    refine g_tabOut 4 O 65 dX3_truthOf_4 (Or.inr (by rw [hwd]; decide)) (by decide) ?_
    refine g_aload_n 65 O dX3_truthOf_65 rfl 0 rfl ?_
    refine g_iload_n 66 O dX3_truthOf_66 rfl 1 rfl ?_
    refine g_iload_n 67 O dX3_truthOf_67 rfl 2 rfl ?_
    refine g_iload_n 68 O dX3_truthOf_68 rfl 3 rfl ?_
    refine g_callV 69 O (na := 3) (av := [.int p0, .int p1, .int p2]) (c_X3_truthOfFour l E a R wd rd wi na so lt ng pl t1 t2 tr p0 p1 p2 b v c hb hb5 hv hv8 hq hc) kl_X3_105 km_X3_truthOfFour kv_X3_truthOfFour ki_X3 kc_X3_truthOfFour (by decide +kernel) rfl (Nat.le_of_ble_eq_true rfl) (Nat.le_of_ble_eq_true rfl) (fun _ h => h) 0 rfl rfl (fun s => s) (fun _ _ _ _ h => h) rfl (Nat.le_of_ble_eq_true rfl) dX3_truthOf_69 (fun v9 s9 hv9 => ?_)
    obtain ⟨rfl, rfl⟩ := hv9
    exact g_lret 72 O dX3_truthOf_72 (by rw [hP0]; exact ⟨rfl, rfl⟩)
