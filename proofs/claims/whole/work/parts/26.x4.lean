set_option maxRecDepth 100000 in
set_option maxHeartbeats 4000000 in
theorem c_X5_anyhow (l : Launch) (E : Ev) (a : Nat → Nat) (w rds sd ad : Int32) (pg : Pc) (sn : Nat → Int32) (s0 s1 s2 : Sc) (h : Hc) (t : Tc) (ik iw ir : Int32) (ih : Hc) (it : Tc) (z : Nat → Nat) (y : Sy) (hs : SyA s0 z y) (hr : Hr) (hh : HrW h hr) : Ctr l yX5_anyhow cX5_anyhow 3 (some .int) 4 92 E (wX E a) [.ref (a 0)] (((w, rds, sd, ad), pg, sn, s0, s1, s2, h, t, (ik, iw, ir), ih, it)) (fun v8 s8 => v8 = some (.int (A_anyhow z y hr)) ∧ s8 = ((w, rds, sd, ad), pg, sn, s0, s1, s2, h, t, (ik, iw, ir), ih, it)) := by
  refine Ctr.of' (by decide +kernel) (Nat.le_of_ble_eq_true rfl) (fun X P0 hP0 O => ?_)
  refine g_sub [0] (lv' := [(0, .ref (a 0))]) rfl ?_
  refine g_aload_n 0 O dX5_anyhow_0 rfl 0 rfl ?_
  refine g_get 1 O (v := .ref (a 4)) inX5 0 rfl rfl 2 (by decide) kf_X5_23 rfl dX5_anyhow_1 ?_
  refine g_callV 4 O (na := 0) (av := []) (c_X3_isNone l E (sh a 4) (r_s0 E a (w, rds, sd, ad) pg sn s1 s2 h t (ik, iw, ir) ih it) s0.1.1 s0.1.2.1 s0.1.2.2.1 s0.1.2.2.2.1 s0.1.2.2.2.2 s0.2.1 s0.2.2.1 s0.2.2.2.1 s0.2.2.2.2.1 s0.2.2.2.2.2.1 s0.2.2.2.2.2.2 ) kl_X5_121 km_X3_isNone kv_X3_isNone ki_X3 kc_X3_isNone (by decide +kernel) rfl (Nat.le_of_ble_eq_true rfl) (Nat.le_of_ble_eq_true rfl) (fun H9 h9 => to_s0 E a (w, rds, sd, ad) pg sn s0 s1 s2 h t (ik, iw, ir) ih it H9 h9) 0 rfl rfl (fun _ => ((w, rds, sd, ad), pg, sn, s0, s1, s2, h, t, (ik, iw, ir), ih, it)) (fun _ _ H9 hp h9 => by obtain ⟨-, rfl⟩ := hp; exact of_s0 E a (w, rds, sd, ad) pg sn s1 s2 h t (ik, iw, ir) ih it _ H9 h9) rfl (Nat.le_of_ble_eq_true rfl) dX5_anyhow_4 (fun v9 s9 hv9 => ?_)
  obtain ⟨rfl, rfl⟩ := hv9
  refine g_if_eq 7 O 13 dX5_anyhow_7 (by decide) (fun h7 => ?_) (fun h7 => ?_)
  · -- taken
    have hy0 : ¬ y.1 = 0 := fun e => ite_f h7 ((sy0 hs).mpr e)
    refine g_iconst 13 O (v := 0) dX5_anyhow_13 (by decide) ?_
    refine g_istore_n 14 O (lv' := [(1, .int 0), (0, .ref (a 0))]) dX5_anyhow_14 rfl (by decide) rfl ?_
    refine g_iconst 15 O (v := 0) dX5_anyhow_15 (by decide) ?_
    refine g_istore_n 16 O (lv' := [(2, .int 0), (1, .int 0), (0, .ref (a 0))]) dX5_anyhow_16 rfl (by decide) rfl ?_
    refine g_sub [0, 1, 2] (lv' := [(2, .int 0), (1, .int 0), (0, .ref (a 0))]) rfl ?_
    have L17 : ∀ (fuel : Nat) (i : Nat) (hi : i ≤ 64), 64 - i < fuel → G l E (wX E a) P0 X 3 (((w, rds, sd, ad), pg, sn, s0, s1, s2, h, t, (ik, iw, ir), ih, it)) 17 [(2, .int (nI i)), (1, .int (nI (cn (fun u => tb (som z y) (bR z y hr hr.1 u)) i))), (0, .ref (a 0))] [] := by
      intro fuel
      induction fuel with
      | zero => intro i hi hfu; exact absurd hfu (Nat.not_lt_zero _)
      | succ fuel ih17 =>
        intro i hi hfu
        refine g_iload_n 17 O dX5_anyhow_17 rfl 0 rfl ?_
        refine g_bipush 18 O (v := 64) dX5_anyhow_18 (by decide) ?_
        refine g_icmp_ge 20 O 47 dX5_anyhow_20 (by decide) (fun h20 => ?_) (fun h20 => ?_)
        · -- taken
          have e : i = 64 := by have := ge_of_le (n := 64) (by omega) (by decide) h20; omega
          subst e
          refine g_iload_n 47 O dX5_anyhow_47 rfl 1 rfl ?_
          exact g_iret 48 O dX5_anyhow_48 (by rw [hP0, A_anyhow, if_neg hy0, anyN]; exact ⟨rfl, rfl⟩)
        · -- not taken
          have hlt : i < 64 := lt_of_nge (n := 64) (by omega) h20
          refine g_iload_n 23 O dX5_anyhow_23 rfl 1 rfl ?_
          refine g_aload_n 24 O dX5_anyhow_24 rfl 2 rfl ?_
          refine g_get 25 O (v := .ref (a 4)) inX5 0 rfl rfl 2 (by decide) kf_X5_23 rfl dX5_anyhow_25 ?_
          refine g_getN 28 O (v := .long s0.1.2.2.2.2) inX3 4 rfl rfl 10 (by decide) (fun _ h => h.2.2.2.2.2.2.1) rfl dX5_anyhow_28 ?_
          refine g_sl (som z y) (hs.2.2.2.2.2) ?_
          refine g_aload_n 31 O dX5_anyhow_31 rfl 2 rfl ?_
          refine g_iload_n 32 O dX5_anyhow_32 rfl 0 rfl ?_
          refine g_callV 33 O (na := 1) (av := [.int (nI i)]) (c_X5_behindRound l E a w rds sd ad pg sn s0 s1 s2 h t ik iw ir ih it (nI i) z y hs hr hh hy0 i rfl hlt) kl_X5_189 km_X5_behindRound kv_X5_behindRound ki_X5 kc_X5_behindRound (by decide +kernel) rfl (Nat.le_of_ble_eq_true rfl) (Nat.le_of_ble_eq_true rfl) (fun _ h => h) 0 rfl rfl (fun s => s) (fun _ _ _ _ h => h) rfl (Nat.le_of_ble_eq_true rfl) dX5_anyhow_33 (fun v9 s9 hv9 => ?_)
          obtain ⟨rfl, rfl⟩ := hv9
          refine g_callS 36 O (na := 2) (av := [.long (som z y), .int (nI (bR z y hr hr.1 i))]) (c_X5_bitOf l E _ _ (som z y) (nI (bR z y hr hr.1 i))) kl_X5_117 ks_X5_bitOf ki_X5 kc_X5_bitOf (by decide +kernel) rfl (Nat.le_of_ble_eq_true rfl) (Nat.le_of_ble_eq_true rfl) (fun _ h => h) (fun s => s) (fun _ _ _ _ h => h) rfl (Nat.le_of_ble_eq_true rfl) dX5_anyhow_36 (fun v9 s9 hv9 => ?_)
          obtain ⟨rfl, rfl⟩ := hv9
          refine g_si (bi (tb (som z y) (bR z y hr hr.1 i))) (bit64 (bR_lt hh hlt (Nat.le_refl _))) ?_
          refine g_iadd 39 O dX5_anyhow_39 ?_
          refine g_si (nI (cn (fun u => tb (som z y) (bR z y hr hr.1 u)) (i + 1))) (bi_add (p := (fun u => tb (som z y) (bR z y hr hr.1 u)))) ?_
          refine g_istore_n 40 O (lv' := [(1, .int (nI (cn (fun u => tb (som z y) (bR z y hr hr.1 u)) (i + 1)))), (2, .int (nI i)), (0, .ref (a 0))]) dX5_anyhow_40 rfl (by decide) rfl ?_
          refine g_iinc 41 O (v := nI (i + 1)) (q := 1) (lv' := [(2, .int (nI (i + 1))), (1, .int (nI (cn (fun u => tb (som z y) (bR z y hr hr.1 u)) (i + 1)))), (0, .ref (a 0))]) dX5_anyhow_41 rfl (nI_1 i) (by decide) rfl ?_
          refine g_goto 44 O 17 dX5_anyhow_44 (by decide) ?_
          refine g_sub [0, 1, 2] (lv' := [(2, .int (nI (i + 1))), (1, .int (nI (cn (fun u => tb (som z y) (bR z y hr hr.1 u)) (i + 1)))), (0, .ref (a 0))]) rfl ?_
          exact ih17 (i + 1) (by omega) (by omega)
    exact L17 _ 0 (Nat.zero_le _) (Nat.lt_succ_self _)
  · -- not taken
    refine g_bipush 10 O (v := (-103)) dX5_anyhow_10 (by decide) ?_
    exact g_iret 12 O dX5_anyhow_12 (by rw [hP0, A_anyhow, if_pos ((sy0 hs).mp (ite_t h7))]; exact ⟨rfl, rfl⟩)

set_option maxRecDepth 100000 in
set_option maxHeartbeats 4000000 in
theorem c_X5_left (l : Launch) (E : Ev) (a : Nat → Nat) (w rds sd ad : Int32) (pg : Pc) (sn : Nat → Int32) (s0 s1 s2 : Sc) (h : Hc) (t : Tc) (ik iw ir : Int32) (ih : Hc) (it : Tc) (p0 : Int32) (z : Nat → Nat) (y : Sy) (hs : SyA s0 z y) (o : Sy) (ho : SyA s1 z o) : Ctr l yX5_left cX5_left 4 (some .int) 2 43 E (wX E a) [.ref (a 0), .int p0] (((w, rds, sd, ad), pg, sn, s0, s1, s2, h, t, (ik, iw, ir), ih, it)) (fun v8 s8 => v8 = some (.int (A_left z y o p0)) ∧ s8 = ((w, rds, sd, ad), pg, sn, s0, s1, s2, h, t, (ik, iw, ir), ih, it)) := by
  refine Ctr.of' (by decide +kernel) (Nat.le_of_ble_eq_true rfl) (fun X P0 hP0 O => ?_)
  refine g_sub [0, 1] (lv' := [(0, .ref (a 0)), (1, .int p0)]) rfl ?_
  refine g_iload_n 0 O dX5_left_0 rfl 1 rfl ?_
  refine g_if_lt 1 O 9 dX5_left_1 (by decide) (fun h1 => ?_) (fun h1 => ?_)
  · -- taken
    refine g_bipush 9 O (v := (-102)) dX5_left_9 (by decide) ?_
    exact g_iret 11 O dX5_left_11 (by rw [hP0, A_left, if_neg (fun q => Int32.not_le.mpr h1 q.1)]; exact ⟨rfl, rfl⟩)
  · -- not taken
    refine g_iload_n 4 O dX5_left_4 rfl 1 rfl ?_
    refine g_iconst 5 O (v := 2) dX5_left_5 (by decide) ?_
    refine g_icmp_le 6 O 12 dX5_left_6 (by decide) (fun h6 => ?_) (fun h6 => ?_)
    · -- taken
      refine g_aload_n 12 O dX5_left_12 rfl 0 rfl ?_
      refine g_get 13 O (v := .ref (a 4)) inX5 0 rfl rfl 2 (by decide) kf_X5_23 rfl dX5_left_13 ?_
      refine g_callV 16 O (na := 0) (av := []) (c_X3_isNone l E (sh a 4) (r_s0 E a (w, rds, sd, ad) pg sn s1 s2 h t (ik, iw, ir) ih it) s0.1.1 s0.1.2.1 s0.1.2.2.1 s0.1.2.2.2.1 s0.1.2.2.2.2 s0.2.1 s0.2.2.1 s0.2.2.2.1 s0.2.2.2.2.1 s0.2.2.2.2.2.1 s0.2.2.2.2.2.2 ) kl_X5_121 km_X3_isNone kv_X3_isNone ki_X3 kc_X3_isNone (by decide +kernel) rfl (Nat.le_of_ble_eq_true rfl) (Nat.le_of_ble_eq_true rfl) (fun H9 h9 => to_s0 E a (w, rds, sd, ad) pg sn s0 s1 s2 h t (ik, iw, ir) ih it H9 h9) 0 rfl rfl (fun _ => ((w, rds, sd, ad), pg, sn, s0, s1, s2, h, t, (ik, iw, ir), ih, it)) (fun _ _ H9 hp h9 => by obtain ⟨-, rfl⟩ := hp; exact of_s0 E a (w, rds, sd, ad) pg sn s1 s2 h t (ik, iw, ir) ih it _ H9 h9) rfl (Nat.le_of_ble_eq_true rfl) dX5_left_16 (fun v9 s9 hv9 => ?_)
      obtain ⟨rfl, rfl⟩ := hv9
      refine g_if_eq 19 O 25 dX5_left_19 (by decide) (fun h19 => ?_) (fun h19 => ?_)
      · -- taken
        have hy0 : ¬ y.1 = 0 := fun e => ite_f h19 ((sy0 hs).mpr e)
        refine g_aload_n 25 O dX5_left_25 rfl 0 rfl ?_
        refine g_callV 26 O (na := 0) (av := []) (c_X5_worldsLeft l E a w rds sd ad pg sn s0 s1 s2 h t ik iw ir ih it z y hs o ho) kl_X5_192 km_X5_worldsLeft kv_X5_worldsLeft ki_X5 kc_X5_worldsLeft (by decide +kernel) rfl (Nat.le_of_ble_eq_true rfl) (Nat.le_of_ble_eq_true rfl) (fun _ h => h) 0 rfl rfl (fun s => s) (fun _ _ _ _ h => h) rfl (Nat.le_of_ble_eq_true rfl) dX5_left_26 (fun v9 s9 hv9 => ?_)
        obtain ⟨rfl, rfl⟩ := hv9
        refine g_lstore_n 29 O (lv' := [(2, .long (wl z y o)), (0, .ref (a 0)), (1, .int p0)]) dX5_left_29 rfl (by decide) rfl ?_
        refine g_iload_n 30 O dX5_left_30 rfl 2 rfl ?_
        rcases sw2 p0 with c0 | c0 | c0
        ·
          refine g_si 0 (c0) ?_
          refine g_look 31 O 56 dX5_left_31 (by decide) rfl (by decide) ?_
          refine g_lload_n 56 O dX5_left_56 rfl 0 rfl ?_
          refine g_callX 57 O (na := 1) (av := [.long (wl z y o)]) (c_J13_bitCount_95d88 l E _ _ (wl z y o)) kl_X5_108 ks_J13_bitCount_95d88 ki_J13 kc_J13_bitCount_95d88 (by decide +kernel) rfl (Nat.le_of_ble_eq_true rfl) (Nat.le_of_ble_eq_true rfl) (fun _ h => h) (fun s => s) (fun _ _ _ _ h => h) rfl (Nat.le_of_ble_eq_true rfl) dX5_left_57 (fun v9 s9 hv9 => ?_)
          obtain ⟨rfl, rfl⟩ := hv9
          exact g_iret 60 O dX5_left_60 (by rw [hP0, A_left, if_pos ⟨Int32.not_lt.mp h1, h6⟩, if_neg hy0, lefN, if_pos c0]; exact ⟨rfl, rfl⟩)
        ·
          refine g_si 1 (c0) ?_
          refine g_look 31 O 61 dX5_left_31 (by decide) rfl (by decide) ?_
          refine g_lload_n 61 O dX5_left_61 rfl 0 rfl ?_
          refine g_callS 62 O (na := 1) (av := [.long (wl z y o)]) (c_X5_factsSoInAll l E _ _ (wl z y o)) kl_X5_196 ks_X5_factsSoInAll ki_X5 kc_X5_factsSoInAll (by decide +kernel) rfl (Nat.le_of_ble_eq_true rfl) (Nat.le_of_ble_eq_true rfl) (fun _ h => h) (fun s => s) (fun _ _ _ _ h => h) rfl (Nat.le_of_ble_eq_true rfl) dX5_left_62 (fun v9 s9 hv9 => ?_)
          obtain ⟨rfl, rfl⟩ := hv9
          exact g_iret 65 O dX5_left_65 (by rw [hP0, A_left, if_pos ⟨Int32.not_lt.mp h1, h6⟩, if_neg hy0, lefN, if_neg (by rw [c0]; decide), if_pos c0]; exact ⟨rfl, rfl⟩)
        ·
          refine g_look 31 O (off := 35) 66 dX5_left_31 (by decide) ((lv_osw c0.1 rfl).trans ((lv_osw c0.2 rfl).trans rfl)) (by decide) ?_
          refine g_lload_n 66 O dX5_left_66 rfl 0 rfl ?_
          refine g_callS 67 O (na := 1) (av := [.long (wl z y o)]) (c_X5_factsSoInNone l E _ _ (wl z y o)) kl_X5_199 ks_X5_factsSoInNone ki_X5 kc_X5_factsSoInNone (by decide +kernel) rfl (Nat.le_of_ble_eq_true rfl) (Nat.le_of_ble_eq_true rfl) (fun _ h => h) (fun s => s) (fun _ _ _ _ h => h) rfl (Nat.le_of_ble_eq_true rfl) dX5_left_67 (fun v9 s9 hv9 => ?_)
          obtain ⟨rfl, rfl⟩ := hv9
          exact g_iret 70 O dX5_left_70 (by rw [hP0, A_left, if_pos ⟨Int32.not_lt.mp h1, h6⟩, if_neg hy0, lefN, if_neg c0.1, if_neg c0.2]; exact ⟨rfl, rfl⟩)
      · -- not taken
        refine g_bipush 22 O (v := (-103)) dX5_left_22 (by decide) ?_
        exact g_iret 24 O dX5_left_24 (by rw [hP0, A_left, if_pos ⟨Int32.not_lt.mp h1, h6⟩, if_pos ((sy0 hs).mp (ite_t h19))]; exact ⟨rfl, rfl⟩)
    · -- not taken
      refine g_bipush 9 O (v := (-102)) dX5_left_9 (by decide) ?_
      exact g_iret 11 O dX5_left_11 (by rw [hP0, A_left, if_neg (fun q => h6 q.2)]; exact ⟨rfl, rfl⟩)

theorem mn_1 (f : Nat → Nat) : mn f 1 = 0 := by
  rw [mn]; split <;> rfl
theorem mx_1 (f : Nat → Nat) : mx f 1 = 0 := by
  rw [mx]; split <;> rfl
theorem lw_le (x : Int64) (f : Nat) : lw x f ≤ 64 := by
  have h1 := pcn_le (x &&& Wf f)
  have h2 := pcn_le (x &&& (Wf f ^^^ (-1)))
  unfold lw
  omega
theorem cn_fp {p : Nat → Bool} : ∀ {n : Nat}, cn p n = 0 ↔ fp (fun k => !p k) n = n
  | 0 => ⟨fun _ => rfl, fun _ => rfl⟩
  | n + 1 => by
    have ih := cn_fp (p := p) (n := n)
    have hle := fp_le (fun k => !p k) n
    rw [cn, fp]
    cases e : p n with
    | true => simp; omega
    | false =>
      simp
      constructor
      · intro h q; exact absurd (ih.mp h) q
      · intro h
        by_cases q : fp (fun k => !p k) n = n
        · exact ih.mpr q
        · have := h q; omega
theorem fi_f {p : Nat → Bool} {n : Nat} (h : p n = false) : fi p (n + 1) = fi p n := by
  have hle := fp_le (fun k => !p k) n
  rw [fi, fi, fp]
  simp only [h, Bool.not_false, and_true]
  by_cases q : fp (fun k => !p k) n = n
  · rw [if_pos q, if_neg (Nat.lt_irrefl _), if_neg (by omega)]
  · rw [if_neg q, if_pos (by omega), if_pos (by omega)]
theorem fi_t0 {p : Nat → Bool} {n : Nat} (h : p n = true) (h0 : cn p n = 0) : fi p (n + 1) = nI n := by
  have e := cn_fp.mp h0
  rw [fi, fp]
  simp only [h, Bool.not_true, and_false, Bool.false_eq_true, if_false]
  rw [e, if_pos (Nat.lt_succ_self _)]
theorem fi_t1 {p : Nat → Bool} {n : Nat} (h : p n = true) (h0 : ¬ cn p n = 0) : fi p (n + 1) = fi p n := by
  have hle := fp_le (fun k => !p k) n
  have e : ¬ fp (fun k => !p k) n = n := fun q => h0 (cn_fp.mpr q)
  rw [fi, fi, fp]
  simp only [h, Bool.not_true, and_false, Bool.false_eq_true, if_false]
  rw [if_pos (by omega), if_pos (by omega)]
theorem nx_ok {s : Nat} (hs : s < 2147483648) : ((1103515245 * (nI s).toInt64 + 12345) &&& 2147483647).toInt32 = nI (nx s) ∧ nx s < 2147483648 := by
  have h : nx s < 2147483648 := Nat.mod_lt _ (by decide)
  refine ⟨?_, h⟩
  rw [nI_l hs, show (1103515245 : Int64) = lN 1103515245 from rfl, show (12345 : Int64) = lN 12345 from rfl, show (2147483647 : Int64) = lN (2 ^ 31 - 1) from rfl, lN_mul, lN_add, wb_mask (by omega) (by decide), lN_i]
  rfl
theorem dr_ok {s d : Nat} (hs : s < 2147483648) (h0 : 0 < d) (hd : d < 2147483648) : nI s / 65536 - nI s / 65536 / nI d * nI d = nI (dr s d) := by
  rw [show (65536 : Int32) = nI 65536 from rfl, pk_div hs (by decide) (by decide), pk_rem (by omega) h0 hd]
  rfl
theorem tm_ok {z : Nat → Nat} {y : Sy} {h : Hr} {hc : Hc} (hh : HrW hc h) {w s : Nat} (hw : w < 64) (hs : s < 2147483648) : ∀ n, (tm z y h w s n).1 < 64 ∧ (tm z y h w s n).2.1 < 2147483648
  | 0 => ⟨hw, hs⟩
  | n + 1 => by
    have ih := tm_ok hh (z := z) (y := y) hw hs n
    rw [tm]
    split
    · exact ⟨bR_lt hh ih.1 (Nat.le_refl _), (nx_ok ih.2).2⟩
    · exact ⟨(fl_ok _ ih.1 _ (Nat.mod_lt _ (by decide))).2, (nx_ok (nx_ok ih.2).2).2⟩
theorem nI_bi (c : Nat) (b : Bool) : nI c + bi b = nI (c + (if b = true then 1 else 0)) := by
  cases b with
  | true => exact nI_1 c
  | false => exact Int32.add_zero _

set_option maxRecDepth 100000 in
set_option maxHeartbeats 4000000 in
theorem c_X5_ask (l : Launch) (E : Ev) (a : Nat → Nat) (w rds sd ad : Int32) (pg : Pc) (sn : Nat → Int32) (s0 s1 s2 : Sc) (h : Hc) (t : Tc) (ik iw ir : Int32) (ih : Hc) (it : Tc) (z : Nat → Nat) (y : Sy) (hs : SyA s0 z y) : Ctr l yX5_ask cX5_ask 5 (some .int) 2 44 E (wX E a) [.ref (a 0)] (((w, rds, sd, ad), pg, sn, s0, s1, s2, h, t, (ik, iw, ir), ih, it)) (fun v8 s8 => v8 = some (.int (A_ask z y)) ∧ s8 = ((w, rds, sd, ad), pg, sn, s0, s1, s2, h, t, (ik, iw, ir), ih, it)) := by
  refine Ctr.of' (by decide +kernel) (Nat.le_of_ble_eq_true rfl) (fun X P0 hP0 O => ?_)
  refine g_sub [0] (lv' := [(0, .ref (a 0))]) rfl ?_
  refine g_aload_n 0 O dX5_ask_0 rfl 0 rfl ?_
  refine g_get 1 O (v := .ref (a 4)) inX5 0 rfl rfl 2 (by decide) kf_X5_23 rfl dX5_ask_1 ?_
  refine g_callV 4 O (na := 0) (av := []) (c_X3_isNone l E (sh a 4) (r_s0 E a (w, rds, sd, ad) pg sn s1 s2 h t (ik, iw, ir) ih it) s0.1.1 s0.1.2.1 s0.1.2.2.1 s0.1.2.2.2.1 s0.1.2.2.2.2 s0.2.1 s0.2.2.1 s0.2.2.2.1 s0.2.2.2.2.1 s0.2.2.2.2.2.1 s0.2.2.2.2.2.2 ) kl_X5_121 km_X3_isNone kv_X3_isNone ki_X3 kc_X3_isNone (by decide +kernel) rfl (Nat.le_of_ble_eq_true rfl) (Nat.le_of_ble_eq_true rfl) (fun H9 h9 => to_s0 E a (w, rds, sd, ad) pg sn s0 s1 s2 h t (ik, iw, ir) ih it H9 h9) 0 rfl rfl (fun _ => ((w, rds, sd, ad), pg, sn, s0, s1, s2, h, t, (ik, iw, ir), ih, it)) (fun _ _ H9 hp h9 => by obtain ⟨-, rfl⟩ := hp; exact of_s0 E a (w, rds, sd, ad) pg sn s1 s2 h t (ik, iw, ir) ih it _ H9 h9) rfl (Nat.le_of_ble_eq_true rfl) dX5_ask_4 (fun v9 s9 hv9 => ?_)
  obtain ⟨rfl, rfl⟩ := hv9
  refine g_if_eq 7 O 13 dX5_ask_7 (by decide) (fun h7 => ?_) (fun h7 => ?_)
  · -- taken
    have hy0 : ¬ y.1 = 0 := fun e => ite_f h7 ((sy0 hs).mpr e)
    refine g_iconst 13 O (v := 0) dX5_ask_13 (by decide) ?_
    refine g_si (nI (mn (fun f => lw (som z y) f) 1)) (by rw [mn_1]; rfl) ?_
    refine g_istore_n 14 O (lv' := [(1, .int (nI (mn (fun f => lw (som z y) f) 1))), (0, .ref (a 0))]) dX5_ask_14 rfl (by decide) rfl ?_
    refine g_aload_n 15 O dX5_ask_15 rfl 1 rfl ?_
    refine g_iconst 16 O (v := 0) dX5_ask_16 (by decide) ?_
    refine g_callV 17 O (na := 1) (av := [.int 0]) (c_X5_leftAtWorst l E a w rds sd ad pg sn s0 s1 s2 h t ik iw ir ih it 0 z y hs 0 rfl (by decide)) kl_X5_202 km_X5_leftAtWorst kv_X5_leftAtWorst ki_X5 kc_X5_leftAtWorst (by decide +kernel) rfl (Nat.le_of_ble_eq_true rfl) (Nat.le_of_ble_eq_true rfl) (fun _ h => h) 0 rfl rfl (fun s => s) (fun _ _ _ _ h => h) rfl (Nat.le_of_ble_eq_true rfl) dX5_ask_17 (fun v9 s9 hv9 => ?_)
    obtain ⟨rfl, rfl⟩ := hv9
    refine g_si (nI (lw (som z y) (mn (fun f => lw (som z y) f) 1))) (by rw [mn_1]) ?_
    refine g_istore_n 20 O (lv' := [(2, .int (nI (lw (som z y) (mn (fun f => lw (som z y) f) 1)))), (1, .int (nI (mn (fun f => lw (som z y) f) 1))), (0, .ref (a 0))]) dX5_ask_20 rfl (by decide) rfl ?_
    refine g_iconst 21 O (v := 1) dX5_ask_21 (by decide) ?_
    refine g_si (nI 1) (rfl) ?_
    refine g_istore_n 22 O (lv' := [(3, .int (nI 1)), (2, .int (nI (lw (som z y) (mn (fun f => lw (som z y) f) 1)))), (1, .int (nI (mn (fun f => lw (som z y) f) 1))), (0, .ref (a 0))]) dX5_ask_22 rfl (by decide) rfl ?_
    refine g_sub [0, 1, 2, 3] (lv' := [(3, .int (nI 1)), (2, .int (nI (lw (som z y) (mn (fun f => lw (som z y) f) 1)))), (1, .int (nI (mn (fun f => lw (som z y) f) 1))), (0, .ref (a 0))]) rfl ?_
    have L23 : ∀ (fuel : Nat) (i : Nat) (h1i : 1 ≤ i) (hi : i ≤ 6), 6 - i < fuel → G l E (wX E a) P0 X 5 (((w, rds, sd, ad), pg, sn, s0, s1, s2, h, t, (ik, iw, ir), ih, it)) 23 [(3, .int (nI i)), (2, .int (nI (lw (som z y) (mn (fun f => lw (som z y) f) i)))), (1, .int (nI (mn (fun f => lw (som z y) f) i))), (0, .ref (a 0))] [] := by
      intro fuel
      induction fuel with
      | zero => intro i h1i hi hfu; exact absurd hfu (Nat.not_lt_zero _)
      | succ fuel ih23 =>
        intro i h1i hi hfu
        refine g_iload_n 23 O dX5_ask_23 rfl 0 rfl ?_
        refine g_bipush 24 O (v := 6) dX5_ask_24 (by decide) ?_
        refine g_icmp_ge 26 O 53 dX5_ask_26 (by decide) (fun h26 => ?_) (fun h26 => ?_)
        · -- taken
          have e : i = 6 := by have := ge_of_le (n := 6) (by omega) (by decide) h26; omega
          subst e
          refine g_iload_n 53 O dX5_ask_53 rfl 2 rfl ?_
          exact g_iret 54 O dX5_ask_54 (by rw [hP0, A_ask, if_neg hy0, askN]; exact ⟨rfl, rfl⟩)
        · -- not taken
          have hlt : i < 6 := lt_of_nge (n := 6) (by omega) h26
          refine g_aload_n 29 O dX5_ask_29 rfl 3 rfl ?_
          refine g_iload_n 30 O dX5_ask_30 rfl 0 rfl ?_
          refine g_callV 31 O (na := 1) (av := [.int (nI i)]) (c_X5_leftAtWorst l E a w rds sd ad pg sn s0 s1 s2 h t ik iw ir ih it (nI i) z y hs i rfl hlt) kl_X5_202 km_X5_leftAtWorst kv_X5_leftAtWorst ki_X5 kc_X5_leftAtWorst (by decide +kernel) rfl (Nat.le_of_ble_eq_true rfl) (Nat.le_of_ble_eq_true rfl) (fun _ h => h) 0 rfl rfl (fun s => s) (fun _ _ _ _ h => h) rfl (Nat.le_of_ble_eq_true rfl) dX5_ask_31 (fun v9 s9 hv9 => ?_)
          obtain ⟨rfl, rfl⟩ := hv9
          refine g_istore 34 O (lv' := [(4, .int (nI (lw (som z y) i))), (3, .int (nI i)), (2, .int (nI (lw (som z y) (mn (fun f => lw (som z y) f) i)))), (1, .int (nI (mn (fun f => lw (som z y) f) i))), (0, .ref (a 0))]) dX5_ask_34 (by decide) rfl ?_
          refine g_iload 36 O dX5_ask_36 0 rfl ?_
          refine g_iload_n 38 O dX5_ask_38 rfl 2 rfl ?_
          refine g_icmp_ge 39 O 47 dX5_ask_39 (by decide) (fun h39 => ?_) (fun h39 => ?_)
          · -- taken
            have em : mn (fun f => lw (som z y) f) (i + 1) = mn (fun f => lw (som z y) f) i := by rw [mn, if_neg]; have := ge_of_le (by have := lw_le (som z y) i; omega) (by have := lw_le (som z y) (mn (fun f => lw (som z y) f) i); omega) h39; show ¬ lw (som z y) i < lw (som z y) (mn (fun f => lw (som z y) f) i); omega
            rw [show (nI (mn (fun f => lw (som z y) f) i) : Int32) = nI (mn (fun f => lw (som z y) f) (i + 1)) from by rw [em]]
            rw [show (nI (lw (som z y) (mn (fun f => lw (som z y) f) i)) : Int32) = nI (lw (som z y) (mn (fun f => lw (som z y) f) (i + 1))) from by rw [em]]
            refine g_iinc 47 O (v := nI (i + 1)) (q := 1) (lv' := [(3, .int (nI (i + 1))), (4, .int (nI (lw (som z y) i))), (2, .int (nI (lw (som z y) (mn (fun f => lw (som z y) f) (i + 1))))), (1, .int (nI (mn (fun f => lw (som z y) f) (i + 1)))), (0, .ref (a 0))]) dX5_ask_47 rfl (nI_1 i) (by decide) rfl ?_
            refine g_goto 50 O 23 dX5_ask_50 (by decide) ?_
            refine g_sub [0, 2, 3, 4] (lv' := [(3, .int (nI (i + 1))), (2, .int (nI (lw (som z y) (mn (fun f => lw (som z y) f) (i + 1))))), (1, .int (nI (mn (fun f => lw (som z y) f) (i + 1)))), (0, .ref (a 0))]) rfl ?_
            exact ih23 (i + 1) (by omega) (by omega) (by omega)
          · -- not taken
            have em : mn (fun f => lw (som z y) f) (i + 1) = i := by rw [mn, if_pos]; exact lt_of_nge (by have := lw_le (som z y) i; omega) h39
            refine g_iload 42 O dX5_ask_42 0 rfl ?_
            refine g_si (nI (lw (som z y) (mn (fun f => lw (som z y) f) (i + 1)))) (by rw [em]) ?_
            refine g_istore_n 44 O (lv' := [(2, .int (nI (lw (som z y) (mn (fun f => lw (som z y) f) (i + 1))))), (4, .int (nI (lw (som z y) i))), (3, .int (nI i)), (1, .int (nI (mn (fun f => lw (som z y) f) i))), (0, .ref (a 0))]) dX5_ask_44 rfl (by decide) rfl ?_
            refine g_iload_n 45 O dX5_ask_45 rfl 2 rfl ?_
            refine g_si (nI (mn (fun f => lw (som z y) f) (i + 1))) (by rw [em]) ?_
            refine g_istore_n 46 O (lv' := [(1, .int (nI (mn (fun f => lw (som z y) f) (i + 1)))), (2, .int (nI (lw (som z y) (mn (fun f => lw (som z y) f) (i + 1))))), (4, .int (nI (lw (som z y) i))), (3, .int (nI i)), (0, .ref (a 0))]) dX5_ask_46 rfl (by decide) rfl ?_
            refine g_iinc 47 O (v := nI (i + 1)) (q := 3) (lv' := [(3, .int (nI (i + 1))), (1, .int (nI (mn (fun f => lw (som z y) f) (i + 1)))), (2, .int (nI (lw (som z y) (mn (fun f => lw (som z y) f) (i + 1))))), (4, .int (nI (lw (som z y) i))), (0, .ref (a 0))]) dX5_ask_47 rfl (nI_1 i) (by decide) rfl ?_
            refine g_goto 50 O 23 dX5_ask_50 (by decide) ?_
            refine g_sub [0, 2, 1, 4] (lv' := [(3, .int (nI (i + 1))), (2, .int (nI (lw (som z y) (mn (fun f => lw (som z y) f) (i + 1))))), (1, .int (nI (mn (fun f => lw (som z y) f) (i + 1)))), (0, .ref (a 0))]) rfl ?_
            exact ih23 (i + 1) (by omega) (by omega) (by omega)
    exact L23 _ 1 (Nat.le_refl _) (by decide) (Nat.lt_succ_self _)
  · -- not taken
    refine g_bipush 10 O (v := (-103)) dX5_ask_10 (by decide) ?_
    exact g_iret 12 O dX5_ask_12 (by rw [hP0, A_ask, if_pos ((sy0 hs).mp (ite_t h7))]; exact ⟨rfl, rfl⟩)

set_option maxRecDepth 100000 in
set_option maxHeartbeats 4000000 in
theorem c_X5_fits (l : Launch) (E : Ev) (a : Nat → Nat) (w rds sd ad : Int32) (pg : Pc) (sn : Nat → Int32) (s0 s1 s2 : Sc) (h : Hc) (t : Tc) (ik iw ir : Int32) (ih : Hc) (it : Tc) (p0 p1 : Int32) (z : Nat → Nat) (y : Sy) (hs : SyA s0 z y) (hr : Hr) (hh : HrW h hr) (tl : Tl) (ht : TlW t tl) : Ctr l yX5_fits cX5_fits 6 (some .int) 4 92 E (wX E a) [.ref (a 0), .int p0, .int p1] (((w, rds, sd, ad), pg, sn, s0, s1, s2, h, t, (ik, iw, ir), ih, it)) (fun v8 s8 => v8 = some (.int (A_fits z y hr tl p0 p1)) ∧ s8 = ((w, rds, sd, ad), pg, sn, s0, s1, s2, h, t, (ik, iw, ir), ih, it)) := by
  refine Ctr.of' (by decide +kernel) (Nat.le_of_ble_eq_true rfl) (fun X P0 hP0 O => ?_)
  refine g_sub [0, 1, 2] (lv' := [(0, .ref (a 0)), (1, .int p0), (2, .int p1)]) rfl ?_
  refine g_aload_n 0 O dX5_fits_0 rfl 0 rfl ?_
  refine g_get 1 O (v := .ref (a 25)) inX5 0 rfl rfl 5 (by decide) kf_X5_36 rfl dX5_fits_1 ?_
  refine g_iload_n 4 O dX5_fits_4 rfl 1 rfl ?_
  refine g_callV 5 O (na := 1) (av := [.int p0]) (c_X0_has l E (sh a 25) (r_h E a (w, rds, sd, ad) pg sn s0 s1 s2 t (ik, iw, ir) ih it) h.1 h.2.1 h.2.2.1 h.2.2.2.1 h.2.2.2.2 p0 hr.1 hh.1 hh.2.1) kl_X5_153 km_X0_has kv_X0_has ki_X0 kc_X0_has (by decide +kernel) rfl (Nat.le_of_ble_eq_true rfl) (Nat.le_of_ble_eq_true rfl) (fun H9 h9 => to_h E a (w, rds, sd, ad) pg sn s0 s1 s2 h t (ik, iw, ir) ih it H9 h9) 0 rfl rfl (fun _ => ((w, rds, sd, ad), pg, sn, s0, s1, s2, h, t, (ik, iw, ir), ih, it)) (fun _ _ H9 hp h9 => by obtain ⟨-, rfl⟩ := hp; exact of_h E a (w, rds, sd, ad) pg sn s0 s1 s2 t (ik, iw, ir) ih it _ H9 h9) rfl (Nat.le_of_ble_eq_true rfl) dX5_fits_5 (fun v9 s9 hv9 => ?_)
  obtain ⟨rfl, rfl⟩ := hv9
  refine g_si (if okH hr p0 then 1 else 0) (by rw [hh.1]) ?_
  refine g_if_ne 8 O 14 dX5_fits_8 (by decide) (fun h8 => ?_) (fun h8 => ?_)
  · -- taken
    have hh4 := hh.2.1
    obtain ⟨p, hp0, hp, hpc⟩ := rng_of (by omega) (ite_t h8)
    refine g_iload_n 14 O dX5_fits_14 rfl 2 rfl ?_
    refine g_if_lt 15 O 23 dX5_fits_15 (by decide) (fun h15 => ?_) (fun h15 => ?_)
    · -- taken
      refine g_bipush 23 O (v := (-102)) dX5_fits_23 (by decide) ?_
      exact g_iret 25 O dX5_fits_25 (by rw [hP0, A_fits, if_pos (ite_t h8), if_neg (fun q => Int32.not_le.mpr h15 q.1)]; exact ⟨rfl, rfl⟩)
    · -- not taken
      refine g_iload_n 18 O dX5_fits_18 rfl 2 rfl ?_
      refine g_iconst 19 O (v := 1) dX5_fits_19 (by decide) ?_
      refine g_icmp_le 20 O 26 dX5_fits_20 (by decide) (fun h20 => ?_) (fun h20 => ?_)
      · -- taken
        refine g_aload_n 26 O dX5_fits_26 rfl 0 rfl ?_
        refine g_get 27 O (v := .ref (a 4)) inX5 0 rfl rfl 2 (by decide) kf_X5_23 rfl dX5_fits_27 ?_
        refine g_callV 30 O (na := 0) (av := []) (c_X3_isNone l E (sh a 4) (r_s0 E a (w, rds, sd, ad) pg sn s1 s2 h t (ik, iw, ir) ih it) s0.1.1 s0.1.2.1 s0.1.2.2.1 s0.1.2.2.2.1 s0.1.2.2.2.2 s0.2.1 s0.2.2.1 s0.2.2.2.1 s0.2.2.2.2.1 s0.2.2.2.2.2.1 s0.2.2.2.2.2.2 ) kl_X5_121 km_X3_isNone kv_X3_isNone ki_X3 kc_X3_isNone (by decide +kernel) rfl (Nat.le_of_ble_eq_true rfl) (Nat.le_of_ble_eq_true rfl) (fun H9 h9 => to_s0 E a (w, rds, sd, ad) pg sn s0 s1 s2 h t (ik, iw, ir) ih it H9 h9) 0 rfl rfl (fun _ => ((w, rds, sd, ad), pg, sn, s0, s1, s2, h, t, (ik, iw, ir), ih, it)) (fun _ _ H9 hp h9 => by obtain ⟨-, rfl⟩ := hp; exact of_s0 E a (w, rds, sd, ad) pg sn s1 s2 h t (ik, iw, ir) ih it _ H9 h9) rfl (Nat.le_of_ble_eq_true rfl) dX5_fits_30 (fun v9 s9 hv9 => ?_)
        obtain ⟨rfl, rfl⟩ := hv9
        refine g_if_ne 33 O 46 dX5_fits_33 (by decide) (fun h33 => ?_) (fun h33 => ?_)
        · -- taken
          refine g_bipush 46 O (v := (-103)) dX5_fits_46 (by decide) ?_
          exact g_iret 48 O dX5_fits_48 (by rw [hP0, A_fits, if_pos (ite_t h8), if_pos ⟨Int32.not_lt.mp h15, h20⟩, if_pos (Or.inl ((sy0 hs).mp (ite_t h33)))]; exact ⟨rfl, rfl⟩)
        · -- not taken
          have hy0 : ¬ y.1 = 0 := fun e => ite_f h33 ((sy0 hs).mpr e)
          have hN := NR_le (y := y) hs.1.2.1
          refine g_aload_n 36 O dX5_fits_36 rfl 0 rfl ?_
          refine g_get 37 O (v := .ref (a 30)) inX5 0 rfl rfl 6 (by decide) kf_X5_43 rfl dX5_fits_37 ?_
          refine g_getN 40 O (v := .int t.1) inX4 30 rfl rfl 1 (by decide) (fun _ h => h.2.2.2.2.2.2.2.2.1) rfl dX5_fits_40 ?_
          refine g_si (nI tl.1) (ht.1) ?_
          refine g_if_ne 43 O 49 dX5_fits_43 (by decide) (fun h43 => ?_) (fun h43 => ?_)
          · -- taken
            have ht0 : 0 < tl.1 := Nat.pos_of_ne_zero (fun e => h43 (by rw [e]; rfl))
            refine g_iconst 49 O (v := 0) dX5_fits_49 (by decide) ?_
            refine g_istore_n 50 O (lv' := [(3, .int 0), (0, .ref (a 0)), (1, .int p0), (2, .int p1)]) dX5_fits_50 rfl (by decide) rfl ?_
            refine g_iconst 51 O (v := (-1)) dX5_fits_51 (by decide) ?_
            refine g_istore 52 O (lv' := [(4, .int ((-1))), (3, .int 0), (0, .ref (a 0)), (1, .int p0), (2, .int p1)]) dX5_fits_52 (by decide) rfl ?_
            refine g_iconst 54 O (v := 0) dX5_fits_54 (by decide) ?_
            refine g_istore 55 O (lv' := [(5, .int 0), (4, .int ((-1))), (3, .int 0), (0, .ref (a 0)), (1, .int p0), (2, .int p1)]) dX5_fits_55 (by decide) rfl ?_
            refine g_sub [0, 1, 2, 3, 4, 5] (lv' := [(5, .int 0), (4, .int ((-1))), (3, .int 0), (0, .ref (a 0)), (1, .int p0), (2, .int p1)]) rfl ?_
            have L57 : ∀ (fuel : Nat) (i : Nat) (hi : i ≤ NR y), NR y - i < fuel → G l E (wX E a) P0 X 6 (((w, rds, sd, ad), pg, sn, s0, s1, s2, h, t, (ik, iw, ir), ih, it)) 57 [(5, .int (nI i)), (4, .int (fi (fun r => fitB hr tl p (TR z y r)) i)), (3, .int (nI (cn (fun r => fitB hr tl p (TR z y r)) i))), (0, .ref (a 0)), (1, .int p0), (2, .int p1)] [] := by
              intro fuel
              induction fuel with
              | zero => intro i hi hfu; exact absurd hfu (Nat.not_lt_zero _)
              | succ fuel ih57 =>
                intro i hi hfu
                have hcn := cn_le (fun r => fitB hr tl p (TR z y r)) i
                refine g_iload 57 O dX5_fits_57 0 rfl ?_
                refine g_aload_n 59 O dX5_fits_59 rfl 3 rfl ?_
                refine g_get 60 O (v := .ref (a 4)) inX5 0 rfl rfl 2 (by decide) kf_X5_23 rfl dX5_fits_60 ?_
                refine g_getN 63 O (v := .int s0.1.2.1) inX3 4 rfl rfl 7 (by decide) (fun _ h => h.2.2.2.1) rfl dX5_fits_63 ?_
                refine g_icmp_ge 66 O 101 dX5_fits_66 (by decide) (fun h66 => ?_) (fun h66 => ?_)
                · -- taken
                  have e : i = NR y := by rw [hs.2.1] at h66; have := ge_of_le (by omega) (by omega) h66; omega
                  subst e
                  refine g_iload_n 101 O dX5_fits_101 rfl 5 rfl ?_
                  refine g_if_ne 102 O 109 dX5_fits_102 (by decide) (fun h102 => ?_) (fun h102 => ?_)
                  · -- taken
                    refine g_iload 109 O dX5_fits_109 1 rfl ?_
                    exact g_iret 111 O dX5_fits_111 (by rw [hP0, A_fits, if_pos (ite_t h8), if_pos ⟨Int32.not_lt.mp h15, h20⟩, if_neg (fun q => q.elim hy0 (by omega)), hpc, fitN, if_neg h102]; exact ⟨rfl, rfl⟩)
                  · -- not taken
                    refine g_iload_n 105 O dX5_fits_105 rfl 2 rfl ?_
                    refine g_goto 106 O 111 dX5_fits_106 (by decide) ?_
                    exact g_iret 111 O dX5_fits_111 (by rw [hP0, A_fits, if_pos (ite_t h8), if_pos ⟨Int32.not_lt.mp h15, h20⟩, if_neg (fun q => q.elim hy0 (by omega)), hpc, fitN, if_pos h102]; exact ⟨rfl, rfl⟩)
                · -- not taken
                  have hlt : i < NR y := by rw [hs.2.1] at h66; exact lt_of_nge (by omega) h66
                  refine g_aload_n 69 O dX5_fits_69 rfl 3 rfl ?_
                  refine g_iload_n 70 O dX5_fits_70 rfl 4 rfl ?_
                  refine g_iload 71 O dX5_fits_71 0 rfl ?_
                  refine g_callV 73 O (na := 2) (av := [.int p0, .int (nI i)]) (c_X5_doesFit l E a w rds sd ad pg sn s0 s1 s2 h t ik iw ir ih it p0 (nI i) z y hs hr hh p hp hp0 i rfl hlt tl ht ht0) kl_X5_218 km_X5_doesFit kv_X5_doesFit ki_X5 kc_X5_doesFit (by decide +kernel) rfl (Nat.le_of_ble_eq_true rfl) (Nat.le_of_ble_eq_true rfl) (fun _ h => h) 0 rfl rfl (fun s => s) (fun _ _ _ _ h => h) rfl (Nat.le_of_ble_eq_true rfl) dX5_fits_73 (fun v9 s9 hv9 => ?_)
                  obtain ⟨rfl, rfl⟩ := hv9
                  refine g_if_eq 76 O 95 dX5_fits_76 (by decide) (fun h76 => ?_) (fun h76 => ?_)
                  · -- taken
                    rw [show (nI (cn (fun r => fitB hr tl p (TR z y r)) i) : Int32) = nI (cn (fun r => fitB hr tl p (TR z y r)) (i + 1)) from cn_f' (p := (fun r => fitB hr tl p (TR z y r))) (bi_f h76)]
                    rw [show (fi (fun r => fitB hr tl p (TR z y r)) i : Int32) = fi (fun r => fitB hr tl p (TR z y r)) (i + 1) from (fi_f (p := (fun r => fitB hr tl p (TR z y r))) (bi_f h76)).symm]
                    refine g_iinc 95 O (v := nI (i + 1)) (q := 0) (lv' := [(5, .int (nI (i + 1))), (4, .int (fi (fun r => fitB hr tl p (TR z y r)) (i + 1))), (3, .int (nI (cn (fun r => fitB hr tl p (TR z y r)) (i + 1)))), (0, .ref (a 0)), (1, .int p0), (2, .int p1)]) dX5_fits_95 rfl (nI_1 i) (by decide) rfl ?_
                    refine g_goto 98 O 57 dX5_fits_98 (by decide) ?_
                    refine g_sub [0, 1, 2, 3, 4, 5] (lv' := [(5, .int (nI (i + 1))), (4, .int (fi (fun r => fitB hr tl p (TR z y r)) (i + 1))), (3, .int (nI (cn (fun r => fitB hr tl p (TR z y r)) (i + 1)))), (0, .ref (a 0)), (1, .int p0), (2, .int p1)]) rfl ?_
                    exact ih57 (i + 1) (by omega) (by omega)
                  · -- not taken
                    refine g_iload_n 79 O dX5_fits_79 rfl 2 rfl ?_
                    refine g_if_ne 80 O 88 dX5_fits_80 (by decide) (fun h80 => ?_) (fun h80 => ?_)
                    · -- taken
                      refine g_iload 88 O dX5_fits_88 1 rfl ?_
                      refine g_si (fi (fun r => fitB hr tl p (TR z y r)) (i + 1)) ((fi_t1 (p := (fun r => fitB hr tl p (TR z y r))) (bi_t h76) (fun e => h80 (by rw [e]; rfl))).symm) ?_
                      refine g_istore 90 O (lv' := [(4, .int (fi (fun r => fitB hr tl p (TR z y r)) (i + 1))), (5, .int (nI i)), (3, .int (nI (cn (fun r => fitB hr tl p (TR z y r)) i))), (0, .ref (a 0)), (1, .int p0), (2, .int p1)]) dX5_fits_90 (by decide) rfl ?_
                      refine g_iinc 92 O (v := nI (cn (fun r => fitB hr tl p (TR z y r)) (i + 1))) (q := 2) (lv' := [(3, .int (nI (cn (fun r => fitB hr tl p (TR z y r)) (i + 1)))), (4, .int (fi (fun r => fitB hr tl p (TR z y r)) (i + 1))), (5, .int (nI i)), (0, .ref (a 0)), (1, .int p0), (2, .int p1)]) dX5_fits_92 rfl (cn_t (p := (fun r => fitB hr tl p (TR z y r))) (bi_t h76)) (by decide) rfl ?_
                      refine g_iinc 95 O (v := nI (i + 1)) (q := 2) (lv' := [(5, .int (nI (i + 1))), (3, .int (nI (cn (fun r => fitB hr tl p (TR z y r)) (i + 1)))), (4, .int (fi (fun r => fitB hr tl p (TR z y r)) (i + 1))), (0, .ref (a 0)), (1, .int p0), (2, .int p1)]) dX5_fits_95 rfl (nI_1 i) (by decide) rfl ?_
                      refine g_goto 98 O 57 dX5_fits_98 (by decide) ?_
                      refine g_sub [0, 2, 1, 3, 4, 5] (lv' := [(5, .int (nI (i + 1))), (4, .int (fi (fun r => fitB hr tl p (TR z y r)) (i + 1))), (3, .int (nI (cn (fun r => fitB hr tl p (TR z y r)) (i + 1)))), (0, .ref (a 0)), (1, .int p0), (2, .int p1)]) rfl ?_
                      exact ih57 (i + 1) (by omega) (by omega)
                    · -- not taken
                      refine g_iload 83 O dX5_fits_83 0 rfl ?_
                      refine g_goto 85 O 90 dX5_fits_85 (by decide) ?_
                      refine g_si (fi (fun r => fitB hr tl p (TR z y r)) (i + 1)) ((fi_t0 (p := (fun r => fitB hr tl p (TR z y r))) (bi_t h76) ((nI_eq (b := 0) (by omega) (by decide)).mp h80)).symm) ?_
                      refine g_istore 90 O (lv' := [(4, .int (fi (fun r => fitB hr tl p (TR z y r)) (i + 1))), (5, .int (nI i)), (3, .int (nI (cn (fun r => fitB hr tl p (TR z y r)) i))), (0, .ref (a 0)), (1, .int p0), (2, .int p1)]) dX5_fits_90 (by decide) rfl ?_
                      refine g_iinc 92 O (v := nI (cn (fun r => fitB hr tl p (TR z y r)) (i + 1))) (q := 2) (lv' := [(3, .int (nI (cn (fun r => fitB hr tl p (TR z y r)) (i + 1)))), (4, .int (fi (fun r => fitB hr tl p (TR z y r)) (i + 1))), (5, .int (nI i)), (0, .ref (a 0)), (1, .int p0), (2, .int p1)]) dX5_fits_92 rfl (cn_t (p := (fun r => fitB hr tl p (TR z y r))) (bi_t h76)) (by decide) rfl ?_
                      refine g_iinc 95 O (v := nI (i + 1)) (q := 2) (lv' := [(5, .int (nI (i + 1))), (3, .int (nI (cn (fun r => fitB hr tl p (TR z y r)) (i + 1)))), (4, .int (fi (fun r => fitB hr tl p (TR z y r)) (i + 1))), (0, .ref (a 0)), (1, .int p0), (2, .int p1)]) dX5_fits_95 rfl (nI_1 i) (by decide) rfl ?_
                      refine g_goto 98 O 57 dX5_fits_98 (by decide) ?_
                      refine g_sub [0, 2, 1, 3, 4, 5] (lv' := [(5, .int (nI (i + 1))), (4, .int (fi (fun r => fitB hr tl p (TR z y r)) (i + 1))), (3, .int (nI (cn (fun r => fitB hr tl p (TR z y r)) (i + 1)))), (0, .ref (a 0)), (1, .int p0), (2, .int p1)]) rfl ?_
                      exact ih57 (i + 1) (by omega) (by omega)
            exact L57 _ 0 (Nat.zero_le _) (Nat.lt_succ_self _)
          · -- not taken
            refine g_bipush 46 O (v := (-103)) dX5_fits_46 (by decide) ?_
            exact g_iret 48 O dX5_fits_48 (by rw [hP0, A_fits, if_pos (ite_t h8), if_pos ⟨Int32.not_lt.mp h15, h20⟩, if_pos (Or.inr ((nI_eq (b := 0) (by have := ht.2.1; omega) (by decide)).mp h43))]; exact ⟨rfl, rfl⟩)
      · -- not taken
        refine g_bipush 23 O (v := (-102)) dX5_fits_23 (by decide) ?_
        exact g_iret 25 O dX5_fits_25 (by rw [hP0, A_fits, if_pos (ite_t h8), if_neg (fun q => h20 q.2)]; exact ⟨rfl, rfl⟩)
  · -- not taken
    refine g_bipush 11 O (v := (-101)) dX5_fits_11 (by decide) ?_
    exact g_iret 13 O dX5_fits_13 (by rw [hP0, A_fits, if_neg (ite_f h8)]; exact ⟨rfl, rfl⟩)

set_option maxRecDepth 100000 in
set_option maxHeartbeats 4000000 in
theorem c_X5_times (l : Launch) (E : Ev) (a : Nat → Nat) (w rds sd ad : Int32) (pg : Pc) (sn : Nat → Int32) (s0 s1 s2 : Sc) (h : Hc) (t : Tc) (ik iw ir : Int32) (ih : Hc) (it : Tc) (p0 p1 p2 : Int32) (z : Nat → Nat) (y : Sy) (hs : SyA s0 z y) (hr : Hr) (hh : HrW h hr) (wn : Nat) (hw : w = nI wn) (hw0 : wn < 64) : Ctr l yX5_times cX5_times 8 (some .int) 4 92 E (wX E a) [.ref (a 0), .int p0, .int p1, .int p2] (((w, rds, sd, ad), pg, sn, s0, s1, s2, h, t, (ik, iw, ir), ih, it)) (fun v8 s8 => v8 = some (.int (A_times z y hr wn p0 p1 p2)) ∧ s8 = ((w, rds, sd, ad), pg, sn, s0, s1, s2, h, t, (ik, iw, ir), ih, it)) := by
  refine Ctr.of' (by decide +kernel) (Nat.le_of_ble_eq_true rfl) (fun X P0 hP0 O => ?_)
  refine g_sub [0, 1, 2, 3] (lv' := [(0, .ref (a 0)), (1, .int p0), (2, .int p1), (3, .int p2)]) rfl ?_
  refine g_iload_n 0 O dX5_times_0 rfl 1 rfl ?_
  refine g_iconst 1 O (v := 1) dX5_times_1 (by decide) ?_
  refine g_icmp_lt 2 O 24 dX5_times_2 (by decide) (fun h2 => ?_) (fun h2 => ?_)
  · -- taken
    refine g_bipush 24 O (v := (-102)) dX5_times_24 (by decide) ?_
    exact g_iret 26 O dX5_times_26 (by rw [hP0, A_times, if_neg (fun q => Int32.not_le.mpr h2 q.1.1)]; exact ⟨rfl, rfl⟩)
  · -- not taken
    refine g_iload_n 5 O dX5_times_5 rfl 1 rfl ?_
    refine g_bipush 6 O (v := 60) dX5_times_6 (by decide) ?_
    refine g_icmp_gt 8 O 24 dX5_times_8 (by decide) (fun h8 => ?_) (fun h8 => ?_)
    · -- taken
      refine g_bipush 24 O (v := (-102)) dX5_times_24 (by decide) ?_
      exact g_iret 26 O dX5_times_26 (by rw [hP0, A_times, if_neg (fun q => Int32.not_le.mpr h8 q.1.2)]; exact ⟨rfl, rfl⟩)
    · -- not taken
      refine g_iload_n 11 O dX5_times_11 rfl 2 rfl ?_
      refine g_if_lt 12 O 24 dX5_times_12 (by decide) (fun h12 => ?_) (fun h12 => ?_)
      · -- taken
        refine g_bipush 24 O (v := (-102)) dX5_times_24 (by decide) ?_
        exact g_iret 26 O dX5_times_26 (by rw [hP0, A_times, if_neg (fun q => Int32.not_le.mpr h12 q.2.1)]; exact ⟨rfl, rfl⟩)
      · -- not taken
        refine g_iload_n 15 O dX5_times_15 rfl 3 rfl ?_
        refine g_if_lt 16 O 24 dX5_times_16 (by decide) (fun h16 => ?_) (fun h16 => ?_)
        · -- taken
          refine g_bipush 24 O (v := (-102)) dX5_times_24 (by decide) ?_
          exact g_iret 26 O dX5_times_26 (by rw [hP0, A_times, if_neg (fun q => Int32.not_le.mpr h16 q.2.2.1)]; exact ⟨rfl, rfl⟩)
        · -- not taken
          refine g_iload_n 19 O dX5_times_19 rfl 3 rfl ?_
          refine g_iconst 20 O (v := 2) dX5_times_20 (by decide) ?_
          refine g_icmp_le 21 O 27 dX5_times_21 (by decide) (fun h21 => ?_) (fun h21 => ?_)
          · -- taken
            refine g_aload_n 27 O dX5_times_27 rfl 0 rfl ?_
            refine g_get 28 O (v := .ref (a 4)) inX5 0 rfl rfl 2 (by decide) kf_X5_23 rfl dX5_times_28 ?_
            refine g_callV 31 O (na := 0) (av := []) (c_X3_isNone l E (sh a 4) (r_s0 E a (w, rds, sd, ad) pg sn s1 s2 h t (ik, iw, ir) ih it) s0.1.1 s0.1.2.1 s0.1.2.2.1 s0.1.2.2.2.1 s0.1.2.2.2.2 s0.2.1 s0.2.2.1 s0.2.2.2.1 s0.2.2.2.2.1 s0.2.2.2.2.2.1 s0.2.2.2.2.2.2 ) kl_X5_121 km_X3_isNone kv_X3_isNone ki_X3 kc_X3_isNone (by decide +kernel) rfl (Nat.le_of_ble_eq_true rfl) (Nat.le_of_ble_eq_true rfl) (fun H9 h9 => to_s0 E a (w, rds, sd, ad) pg sn s0 s1 s2 h t (ik, iw, ir) ih it H9 h9) 0 rfl rfl (fun _ => ((w, rds, sd, ad), pg, sn, s0, s1, s2, h, t, (ik, iw, ir), ih, it)) (fun _ _ H9 hp h9 => by obtain ⟨-, rfl⟩ := hp; exact of_s0 E a (w, rds, sd, ad) pg sn s1 s2 h t (ik, iw, ir) ih it _ H9 h9) rfl (Nat.le_of_ble_eq_true rfl) dX5_times_31 (fun v9 s9 hv9 => ?_)
            obtain ⟨rfl, rfl⟩ := hv9
            refine g_if_eq 34 O 40 dX5_times_34 (by decide) (fun h34 => ?_) (fun h34 => ?_)
            · -- taken
              have hy0 : ¬ y.1 = 0 := fun e => ite_f h34 ((sy0 hs).mpr e)
              obtain ⟨n, hn60, hn, hnc⟩ := rng_le (n := 60) (by decide) ⟨Int32.le_trans (by decide) (Int32.not_lt.mp h2), Int32.not_lt.mp h8⟩
              obtain ⟨k0, hk0, hk⟩ := nI_of h12
              have hkc : p1.toNatClampNeg = k0 := by rw [hk]; exact nI_clamp hk0
              refine g_aload_n 40 O dX5_times_40 rfl 0 rfl ?_
              refine g_get 41 O (v := .int w) inX5 0 rfl rfl 8 (by decide) kf_X5_124 rfl dX5_times_41 ?_
              refine g_si (nI wn) (hw) ?_
              refine g_istore 44 O (lv' := [(4, .int (nI wn)), (0, .ref (a 0)), (1, .int p0), (2, .int p1), (3, .int p2)]) dX5_times_44 (by decide) rfl ?_
              refine g_iload_n 46 O dX5_times_46 rfl 3 rfl ?_
              refine g_si (nI k0) (hk) ?_
              refine g_istore 47 O (lv' := [(5, .int (nI k0)), (4, .int (nI wn)), (0, .ref (a 0)), (1, .int p0), (2, .int p1), (3, .int p2)]) dX5_times_47 (by decide) rfl ?_
              refine g_iconst 49 O (v := 0) dX5_times_49 (by decide) ?_
              refine g_istore 50 O (lv' := [(6, .int 0), (5, .int (nI k0)), (4, .int (nI wn)), (0, .ref (a 0)), (1, .int p0), (2, .int p1), (3, .int p2)]) dX5_times_50 (by decide) rfl ?_
              refine g_iconst 52 O (v := 0) dX5_times_52 (by decide) ?_
              refine g_istore 53 O (lv' := [(7, .int 0), (6, .int 0), (5, .int (nI k0)), (4, .int (nI wn)), (0, .ref (a 0)), (1, .int p0), (2, .int p1), (3, .int p2)]) dX5_times_53 (by decide) rfl ?_
              refine g_sub [0, 1, 2, 3, 4, 5, 6, 7] (lv' := [(7, .int 0), (6, .int 0), (5, .int (nI k0)), (4, .int (nI wn)), (0, .ref (a 0)), (1, .int p0), (2, .int p1), (3, .int p2)]) rfl ?_
              have L55 : ∀ (fuel : Nat) (i : Nat) (hi : i ≤ n), n - i < fuel → G l E (wX E a) P0 X 8 (((w, rds, sd, ad), pg, sn, s0, s1, s2, h, t, (ik, iw, ir), ih, it)) 55 [(7, .int (nI i)), (6, .int (nI (tm z y hr wn k0 i).2.2)), (5, .int (nI (tm z y hr wn k0 i).2.1)), (4, .int (nI (tm z y hr wn k0 i).1)), (0, .ref (a 0)), (1, .int p0), (2, .int p1), (3, .int p2)] [] := by
                intro fuel
                induction fuel with
                | zero => intro i hi hfu; exact absurd hfu (Nat.not_lt_zero _)
                | succ fuel ih55 =>
                  intro i hi hfu
                  obtain ⟨hu, hsd⟩ := tm_ok (z := z) (y := y) hh hw0 hk0 i
                  refine g_iload 55 O dX5_times_55 0 rfl ?_
                  refine g_iload_n 57 O dX5_times_57 rfl 5 rfl ?_
                  refine g_icmp_ge 58 O 132 dX5_times_58 (by decide) (fun h58 => ?_) (fun h58 => ?_)
                  · -- taken
                    have e : i = n := by rw [hn] at h58; have := ge_of_le (by omega) (by omega) h58; omega
                    subst e
                    refine g_iload_n 132 O dX5_times_132 rfl 7 rfl ?_
                    refine g_if_ne 133 O 141 dX5_times_133 (by decide) (fun h133 => ?_) (fun h133 => ?_)
                    · -- taken
                      refine g_iload_n 141 O dX5_times_141 rfl 7 rfl ?_
                      refine g_iconst 142 O (v := 1) dX5_times_142 (by decide) ?_
                      refine g_icmp_ne 143 O 151 dX5_times_143 (by decide) (fun h143 => ?_) (fun h143 => ?_)
                      · -- taken
                        refine g_iload 151 O dX5_times_151 2 rfl ?_
                        exact g_iret 153 O dX5_times_153 (by rw [hP0, A_times, if_pos ⟨⟨Int32.not_lt.mp h2, Int32.not_lt.mp h8⟩, Int32.not_lt.mp h12, Int32.not_lt.mp h16, h21⟩, if_neg hy0, hkc, hnc, if_neg h133, if_neg h143]; exact ⟨rfl, rfl⟩)
                      · -- not taken
                        refine g_iload 146 O dX5_times_146 1 rfl ?_
                        refine g_goto 148 O 153 dX5_times_148 (by decide) ?_
                        exact g_iret 153 O dX5_times_153 (by rw [hP0, A_times, if_pos ⟨⟨Int32.not_lt.mp h2, Int32.not_lt.mp h8⟩, Int32.not_lt.mp h12, Int32.not_lt.mp h16, h21⟩, if_neg hy0, hkc, hnc, if_neg h133, if_pos h143]; exact ⟨rfl, rfl⟩)
                    · -- not taken
                      refine g_iload 136 O dX5_times_136 3 rfl ?_
                      refine g_goto 138 O 153 dX5_times_138 (by decide) ?_
                      exact g_iret 153 O dX5_times_153 (by rw [hP0, A_times, if_pos ⟨⟨Int32.not_lt.mp h2, Int32.not_lt.mp h8⟩, Int32.not_lt.mp h12, Int32.not_lt.mp h16, h21⟩, if_neg hy0, hkc, hnc, if_pos h133]; exact ⟨rfl, rfl⟩)
                  · -- not taken
                    have hlt : i < n := by rw [hn] at h58; exact lt_of_nge (by omega) h58
                    refine g_iload 61 O dX5_times_61 2 rfl ?_
                    refine g_callS 63 O (na := 1) (av := [.int (nI (tm z y hr wn k0 i).2.1)]) (c_X5_nextSeed l E _ _ (nI (tm z y hr wn k0 i).2.1)) kl_X5_221 ks_X5_nextSeed ki_X5 kc_X5_nextSeed (by decide +kernel) rfl (Nat.le_of_ble_eq_true rfl) (Nat.le_of_ble_eq_true rfl) (fun _ h => h) (fun s => s) (fun _ _ _ _ h => h) rfl (Nat.le_of_ble_eq_true rfl) dX5_times_63 (fun v9 s9 hv9 => ?_)
                    obtain ⟨rfl, rfl⟩ := hv9
                    refine g_si (nI (nx (tm z y hr wn k0 i).2.1)) ((nx_ok hsd).1) ?_
                    have hs2 := (nx_ok hsd).2
                    refine g_istore 66 O (lv' := [(5, .int (nI (nx (tm z y hr wn k0 i).2.1))), (7, .int (nI i)), (6, .int (nI (tm z y hr wn k0 i).2.2)), (4, .int (nI (tm z y hr wn k0 i).1)), (0, .ref (a 0)), (1, .int p0), (2, .int p1), (3, .int p2)]) dX5_times_66 (by decide) rfl ?_
                    refine g_iload 68 O dX5_times_68 0 rfl ?_
                    refine g_iconst 70 O (v := 2) dX5_times_70 (by decide) ?_
                    refine g_callS 71 O (na := 2) (av := [.int (nI (nx (tm z y hr wn k0 i).2.1)), .int 2]) (c_X5_drawOf l E _ _ (nI (nx (tm z y hr wn k0 i).2.1)) 2 (by decide)) kl_X5_224 ks_X5_drawOf ki_X5 kc_X5_drawOf (by decide +kernel) rfl (Nat.le_of_ble_eq_true rfl) (Nat.le_of_ble_eq_true rfl) (fun _ h => h) (fun s => s) (fun _ _ _ _ h => h) rfl (Nat.le_of_ble_eq_true rfl) dX5_times_71 (fun v9 s9 hv9 => ?_)
                    obtain ⟨rfl, rfl⟩ := hv9
                    refine g_si (nI (dr (nx (tm z y hr wn k0 i).2.1) 2)) (dr_ok (d := 2) hs2 (by decide) (by decide)) ?_
                    have hd2 : dr (nx (tm z y hr wn k0 i).2.1) 2 < 2 := Nat.mod_lt _ (by decide)
                    refine g_if_ne 74 O 88 dX5_times_74 (by decide) (fun h74 => ?_) (fun h74 => ?_)
                    · -- taken
                      have hd : ¬ dr (nx (tm z y hr wn k0 i).2.1) 2 = 0 := fun e => h74 (by rw [e]; rfl)
                      refine g_iload 88 O dX5_times_88 0 rfl ?_
                      refine g_callS 90 O (na := 1) (av := [.int (nI (nx (tm z y hr wn k0 i).2.1))]) (c_X5_nextSeed l E _ _ (nI (nx (tm z y hr wn k0 i).2.1))) kl_X5_221 ks_X5_nextSeed ki_X5 kc_X5_nextSeed (by decide +kernel) rfl (Nat.le_of_ble_eq_true rfl) (Nat.le_of_ble_eq_true rfl) (fun _ h => h) (fun s => s) (fun _ _ _ _ h => h) rfl (Nat.le_of_ble_eq_true rfl) dX5_times_90 (fun v9 s9 hv9 => ?_)
                      obtain ⟨rfl, rfl⟩ := hv9
                      refine g_si (nI (nx (nx (tm z y hr wn k0 i).2.1))) ((nx_ok hs2).1) ?_
                      have hs3 := (nx_ok hs2).2
                      refine g_istore 93 O (lv' := [(5, .int (nI (nx (nx (tm z y hr wn k0 i).2.1)))), (7, .int (nI i)), (6, .int (nI (tm z y hr wn k0 i).2.2)), (4, .int (nI (tm z y hr wn k0 i).1)), (0, .ref (a 0)), (1, .int p0), (2, .int p1), (3, .int p2)]) dX5_times_93 (by decide) rfl ?_
                      refine g_iload 95 O dX5_times_95 3 rfl ?_
                      refine g_iconst 97 O (v := 1) dX5_times_97 (by decide) ?_
                      refine g_iload 98 O dX5_times_98 0 rfl ?_
                      refine g_bipush 100 O (v := 6) dX5_times_100 (by decide) ?_
                      refine g_callS 102 O (na := 2) (av := [.int (nI (nx (nx (tm z y hr wn k0 i).2.1))), .int 6]) (c_X5_drawOf l E _ _ (nI (nx (nx (tm z y hr wn k0 i).2.1))) 6 (by decide)) kl_X5_224 ks_X5_drawOf ki_X5 kc_X5_drawOf (by decide +kernel) rfl (Nat.le_of_ble_eq_true rfl) (Nat.le_of_ble_eq_true rfl) (fun _ h => h) (fun s => s) (fun _ _ _ _ h => h) rfl (Nat.le_of_ble_eq_true rfl) dX5_times_102 (fun v9 s9 hv9 => ?_)
                      obtain ⟨rfl, rfl⟩ := hv9
                      refine g_si (nI (dr (nx (nx (tm z y hr wn k0 i).2.1)) 6)) (dr_ok (d := 6) hs3 (by decide) (by decide)) ?_
                      refine g_ishl 105 O dX5_times_105 ?_
                      refine g_ixor 106 O dX5_times_106 ?_
                      refine g_si (nI (fl (tm z y hr wn k0 i).1 (dr (nx (nx (tm z y hr wn k0 i).2.1)) 6))) ((fl_ok _ hu _ (Nat.mod_lt _ (by decide))).1) ?_
                      refine g_istore 107 O (lv' := [(4, .int (nI (fl (tm z y hr wn k0 i).1 (dr (nx (nx (tm z y hr wn k0 i).2.1)) 6)))), (5, .int (nI (nx (nx (tm z y hr wn k0 i).2.1)))), (7, .int (nI i)), (6, .int (nI (tm z y hr wn k0 i).2.2)), (0, .ref (a 0)), (1, .int p0), (2, .int p1), (3, .int p2)]) dX5_times_107 (by decide) rfl ?_
                      refine g_iload 109 O dX5_times_109 3 rfl ?_
                      refine g_aload_n 111 O dX5_times_111 rfl 4 rfl ?_
                      refine g_get 112 O (v := .ref (a 4)) inX5 0 rfl rfl 2 (by decide) kf_X5_23 rfl dX5_times_112 ?_
                      refine g_getN 115 O (v := .long s0.1.2.2.2.2) inX3 4 rfl rfl 10 (by decide) (fun _ h => h.2.2.2.2.2.2.1) rfl dX5_times_115 ?_
                      refine g_sl (som z y) (hs.2.2.2.2.2) ?_
                      refine g_iload 118 O dX5_times_118 0 rfl ?_
                      refine g_callS 120 O (na := 2) (av := [.long (som z y), .int (nI (fl (tm z y hr wn k0 i).1 (dr (nx (nx (tm z y hr wn k0 i).2.1)) 6)))]) (c_X5_bitOf l E _ _ (som z y) (nI (fl (tm z y hr wn k0 i).1 (dr (nx (nx (tm z y hr wn k0 i).2.1)) 6)))) kl_X5_117 ks_X5_bitOf ki_X5 kc_X5_bitOf (by decide +kernel) rfl (Nat.le_of_ble_eq_true rfl) (Nat.le_of_ble_eq_true rfl) (fun _ h => h) (fun s => s) (fun _ _ _ _ h => h) rfl (Nat.le_of_ble_eq_true rfl) dX5_times_120 (fun v9 s9 hv9 => ?_)
                      obtain ⟨rfl, rfl⟩ := hv9
                      refine g_si (bi (tb (som z y) (fl (tm z y hr wn k0 i).1 (dr (nx (nx (tm z y hr wn k0 i).2.1)) 6)))) (bit64 (fl_ok _ hu _ (Nat.mod_lt _ (by decide))).2) ?_
                      refine g_iadd 123 O dX5_times_123 ?_
                      refine g_si (nI ((tm z y hr wn k0 i).2.2 + (if tb (som z y) (fl (tm z y hr wn k0 i).1 (dr (nx (nx (tm z y hr wn k0 i).2.1)) 6)) = true then 1 else 0))) (nI_bi _ _) ?_
                      refine g_istore 124 O (lv' := [(6, .int (nI ((tm z y hr wn k0 i).2.2 + (if tb (som z y) (fl (tm z y hr wn k0 i).1 (dr (nx (nx (tm z y hr wn k0 i).2.1)) 6)) = true then 1 else 0)))), (4, .int (nI (fl (tm z y hr wn k0 i).1 (dr (nx (nx (tm z y hr wn k0 i).2.1)) 6)))), (5, .int (nI (nx (nx (tm z y hr wn k0 i).2.1)))), (7, .int (nI i)), (0, .ref (a 0)), (1, .int p0), (2, .int p1), (3, .int p2)]) dX5_times_124 (by decide) rfl ?_
                      rw [show (nI (fl (tm z y hr wn k0 i).1 (dr (nx (nx (tm z y hr wn k0 i).2.1)) 6)) : Int32) = nI (tm z y hr wn k0 (i + 1)).1 from by rw [tm, if_neg hd]]
                      rw [show (nI (nx (nx (tm z y hr wn k0 i).2.1)) : Int32) = nI (tm z y hr wn k0 (i + 1)).2.1 from by rw [tm, if_neg hd]]
                      rw [show (nI ((tm z y hr wn k0 i).2.2 + (if tb (som z y) (fl (tm z y hr wn k0 i).1 (dr (nx (nx (tm z y hr wn k0 i).2.1)) 6)) = true then 1 else 0)) : Int32) = nI (tm z y hr wn k0 (i + 1)).2.2 from by rw [tm, if_neg hd]]
                      refine g_iinc 126 O (v := nI (i + 1)) (q := 3) (lv' := [(7, .int (nI (i + 1))), (6, .int (nI (tm z y hr wn k0 (i + 1)).2.2)), (4, .int (nI (tm z y hr wn k0 (i + 1)).1)), (5, .int (nI (tm z y hr wn k0 (i + 1)).2.1)), (0, .ref (a 0)), (1, .int p0), (2, .int p1), (3, .int p2)]) dX5_times_126 rfl (nI_1 i) (by decide) rfl ?_
                      refine g_goto 129 O 55 dX5_times_129 (by decide) ?_
                      refine g_sub [0, 1, 3, 2, 4, 5, 6, 7] (lv' := [(7, .int (nI (i + 1))), (6, .int (nI (tm z y hr wn k0 (i + 1)).2.2)), (5, .int (nI (tm z y hr wn k0 (i + 1)).2.1)), (4, .int (nI (tm z y hr wn k0 (i + 1)).1)), (0, .ref (a 0)), (1, .int p0), (2, .int p1), (3, .int p2)]) rfl ?_
                      exact ih55 (i + 1) (by omega) (by omega)
                    · -- not taken
                      have hd : dr (nx (tm z y hr wn k0 i).2.1) 2 = 0 := (nI_eq (b := 0) (by omega) (by decide)).mp h74
                      refine g_aload_n 77 O dX5_times_77 rfl 4 rfl ?_
                      refine g_iload 78 O dX5_times_78 3 rfl ?_
                      refine g_callV 80 O (na := 1) (av := [.int (nI (tm z y hr wn k0 i).1)]) (c_X5_behindRound l E a w rds sd ad pg sn s0 s1 s2 h t ik iw ir ih it (nI (tm z y hr wn k0 i).1) z y hs hr hh hy0 (tm z y hr wn k0 i).1 rfl hu) kl_X5_189 km_X5_behindRound kv_X5_behindRound ki_X5 kc_X5_behindRound (by decide +kernel) rfl (Nat.le_of_ble_eq_true rfl) (Nat.le_of_ble_eq_true rfl) (fun _ h => h) 0 rfl rfl (fun s => s) (fun _ _ _ _ h => h) rfl (Nat.le_of_ble_eq_true rfl) dX5_times_80 (fun v9 s9 hv9 => ?_)
                      obtain ⟨rfl, rfl⟩ := hv9
                      refine g_istore 83 O (lv' := [(4, .int (nI (bR z y hr hr.1 (tm z y hr wn k0 i).1))), (5, .int (nI (nx (tm z y hr wn k0 i).2.1))), (7, .int (nI i)), (6, .int (nI (tm z y hr wn k0 i).2.2)), (0, .ref (a 0)), (1, .int p0), (2, .int p1), (3, .int p2)]) dX5_times_83 (by decide) rfl ?_
                      refine g_goto 85 O 109 dX5_times_85 (by decide) ?_
                      refine g_iload 109 O dX5_times_109 3 rfl ?_
                      refine g_aload_n 111 O dX5_times_111 rfl 4 rfl ?_
                      refine g_get 112 O (v := .ref (a 4)) inX5 0 rfl rfl 2 (by decide) kf_X5_23 rfl dX5_times_112 ?_
                      refine g_getN 115 O (v := .long s0.1.2.2.2.2) inX3 4 rfl rfl 10 (by decide) (fun _ h => h.2.2.2.2.2.2.1) rfl dX5_times_115 ?_
                      refine g_sl (som z y) (hs.2.2.2.2.2) ?_
                      refine g_iload 118 O dX5_times_118 0 rfl ?_
                      refine g_callS 120 O (na := 2) (av := [.long (som z y), .int (nI (bR z y hr hr.1 (tm z y hr wn k0 i).1))]) (c_X5_bitOf l E _ _ (som z y) (nI (bR z y hr hr.1 (tm z y hr wn k0 i).1))) kl_X5_117 ks_X5_bitOf ki_X5 kc_X5_bitOf (by decide +kernel) rfl (Nat.le_of_ble_eq_true rfl) (Nat.le_of_ble_eq_true rfl) (fun _ h => h) (fun s => s) (fun _ _ _ _ h => h) rfl (Nat.le_of_ble_eq_true rfl) dX5_times_120 (fun v9 s9 hv9 => ?_)
                      obtain ⟨rfl, rfl⟩ := hv9
                      refine g_si (bi (tb (som z y) (bR z y hr hr.1 (tm z y hr wn k0 i).1))) (bit64 (bR_lt hh hu (Nat.le_refl _))) ?_
                      refine g_iadd 123 O dX5_times_123 ?_
                      refine g_si (nI ((tm z y hr wn k0 i).2.2 + (if tb (som z y) (bR z y hr hr.1 (tm z y hr wn k0 i).1) = true then 1 else 0))) (nI_bi _ _) ?_
                      refine g_istore 124 O (lv' := [(6, .int (nI ((tm z y hr wn k0 i).2.2 + (if tb (som z y) (bR z y hr hr.1 (tm z y hr wn k0 i).1) = true then 1 else 0)))), (4, .int (nI (bR z y hr hr.1 (tm z y hr wn k0 i).1))), (5, .int (nI (nx (tm z y hr wn k0 i).2.1))), (7, .int (nI i)), (0, .ref (a 0)), (1, .int p0), (2, .int p1), (3, .int p2)]) dX5_times_124 (by decide) rfl ?_
                      rw [show (nI (bR z y hr hr.1 (tm z y hr wn k0 i).1) : Int32) = nI (tm z y hr wn k0 (i + 1)).1 from by rw [tm, if_pos hd]]
                      rw [show (nI (nx (tm z y hr wn k0 i).2.1) : Int32) = nI (tm z y hr wn k0 (i + 1)).2.1 from by rw [tm, if_pos hd]]
                      rw [show (nI ((tm z y hr wn k0 i).2.2 + (if tb (som z y) (bR z y hr hr.1 (tm z y hr wn k0 i).1) = true then 1 else 0)) : Int32) = nI (tm z y hr wn k0 (i + 1)).2.2 from by rw [tm, if_pos hd]]
                      refine g_iinc 126 O (v := nI (i + 1)) (q := 3) (lv' := [(7, .int (nI (i + 1))), (6, .int (nI (tm z y hr wn k0 (i + 1)).2.2)), (4, .int (nI (tm z y hr wn k0 (i + 1)).1)), (5, .int (nI (tm z y hr wn k0 (i + 1)).2.1)), (0, .ref (a 0)), (1, .int p0), (2, .int p1), (3, .int p2)]) dX5_times_126 rfl (nI_1 i) (by decide) rfl ?_
                      refine g_goto 129 O 55 dX5_times_129 (by decide) ?_
                      refine g_sub [0, 1, 3, 2, 4, 5, 6, 7] (lv' := [(7, .int (nI (i + 1))), (6, .int (nI (tm z y hr wn k0 (i + 1)).2.2)), (5, .int (nI (tm z y hr wn k0 (i + 1)).2.1)), (4, .int (nI (tm z y hr wn k0 (i + 1)).1)), (0, .ref (a 0)), (1, .int p0), (2, .int p1), (3, .int p2)]) rfl ?_
                      exact ih55 (i + 1) (by omega) (by omega)
              exact L55 _ 0 (Nat.zero_le _) (Nat.lt_succ_self _)
            · -- not taken
              refine g_bipush 37 O (v := (-103)) dX5_times_37 (by decide) ?_
              exact g_iret 39 O dX5_times_39 (by rw [hP0, A_times, if_pos ⟨⟨Int32.not_lt.mp h2, Int32.not_lt.mp h8⟩, Int32.not_lt.mp h12, Int32.not_lt.mp h16, h21⟩, if_pos ((sy0 hs).mp (ite_t h34))]; exact ⟨rfl, rfl⟩)
          · -- not taken
            refine g_bipush 24 O (v := (-102)) dX5_times_24 (by decide) ?_
            exact g_iret 26 O dX5_times_26 (by rw [hP0, A_times, if_neg (fun q => h21 q.2.2.2)]; exact ⟨rfl, rfl⟩)

set_option maxRecDepth 100000 in
set_option maxHeartbeats 4000000 in
theorem c_X5_count (l : Launch) (E : Ev) (a : Nat → Nat) (w rds sd ad : Int32) (pg : Pc) (sn : Nat → Int32) (s0 s1 s2 : Sc) (h : Hc) (t : Tc) (ik iw ir : Int32) (ih : Hc) (it : Tc) (p0 : Int32) (z : Nat → Nat) (y : Sy) (hs : SyA s0 z y) (o : Sy) (ho : SyA s1 z o) (hr : Hr) (hh : HrW h hr) (tl : Tl) (ht : TlW t tl) (pn : Nat) (pc : Nat → Int32) (hpg : pg = (nI pn, pc)) (hpn : pn ≤ 14) (wn : Nat) (hw : w = nI wn) (hw0 : wn < 64) (adn : Nat) (had : ad = nI adn) (im : Bool × Nat × Int32 × Hr × Tl) : Ctr l yX5_count cX5_count 2 (some .int) 0 0 E (wX E a) [.ref (a 0), .int p0] (((w, rds, sd, ad), pg, sn, s0, s1, s2, h, t, (ik, iw, ir), ih, it)) (fun v8 s8 => v8 = some (.int (cntN ((wn, rds, sd, adn), (pn, pc), z, y, o, hr, tl, im) p0)) ∧ s8 = ((w, rds, sd, ad), pg, sn, s0, s1, s2, h, t, (ik, iw, ir), ih, it)) := by
  refine Ctr.of' (by decide +kernel) (Nat.le_of_ble_eq_true rfl) (fun X P0 hP0 O => ?_)
  refine g_sub [0, 1] (lv' := [(0, .ref (a 0)), (1, .int p0)]) rfl ?_
  refine g_iload_n 0 O dX5_count_0 rfl 1 rfl ?_
  rcases sw9 p0 with c0 | c0 | c0 | c0 | c0 | c0 | c0 | c0 | c0 | c0 | c0
  ·
    refine g_si 0 (c0) ?_
    refine g_tabIn 1 O 56 dX5_count_1 (by decide) (by decide) rfl (by decide) ?_
    refine g_aload_n 56 O dX5_count_56 rfl 0 rfl ?_
    refine g_get 57 O (v := .ref (a 4)) inX5 0 rfl rfl 2 (by decide) kf_X5_23 rfl dX5_count_57 ?_
    refine g_getN 60 O (v := .int s0.1.2.1) inX3 4 rfl rfl 7 (by decide) (fun _ h => h.2.2.2.1) rfl dX5_count_60 ?_
    refine g_si (nI (NR y)) (hs.2.1) ?_
    exact g_iret 63 O dX5_count_63 (by rw [hP0, c0]; exact ⟨rfl, rfl⟩)
  ·
    refine g_si 1 (c0) ?_
    refine g_tabIn 1 O 64 dX5_count_1 (by decide) (by decide) rfl (by decide) ?_
    refine g_aload_n 64 O dX5_count_64 rfl 0 rfl ?_
    refine g_get 65 O (v := .ref (a 4)) inX5 0 rfl rfl 2 (by decide) kf_X5_23 rfl dX5_count_65 ?_
    refine g_getN 68 O (v := .int s0.1.1) inX3 4 rfl rfl 6 (by decide) (fun _ h => h.2.2.1) rfl dX5_count_68 ?_
    refine g_si (nI y.1) (hs.1.1) ?_
    exact g_iret 71 O dX5_count_71 (by rw [hP0, c0]; exact ⟨rfl, rfl⟩)
  ·
    refine g_si 2 (c0) ?_
    refine g_tabIn 1 O 72 dX5_count_1 (by decide) (by decide) rfl (by decide) ?_
    refine g_aload_n 72 O dX5_count_72 rfl 0 rfl ?_
    refine g_get 73 O (v := .ref (a 11)) inX5 0 rfl rfl 3 (by decide) kf_X5_27 rfl dX5_count_73 ?_
    refine g_getN 76 O (v := .int s1.1.2.1) inX3 11 rfl rfl 7 (by decide) (fun _ h => h.2.2.2.1) rfl dX5_count_76 ?_
    refine g_si (nI (NR o)) (ho.2.1) ?_
    exact g_iret 79 O dX5_count_79 (by rw [hP0, c0]; exact ⟨rfl, rfl⟩)
  ·
    refine g_si 3 (c0) ?_
    refine g_tabIn 1 O 80 dX5_count_1 (by decide) (by decide) rfl (by decide) ?_
    refine g_aload_n 80 O dX5_count_80 rfl 0 rfl ?_
    refine g_get 81 O (v := .ref (a 25)) inX5 0 rfl rfl 5 (by decide) kf_X5_36 rfl dX5_count_81 ?_
    refine g_getN 84 O (v := .int h.1) inX0 25 rfl rfl 4 (by decide) (fun _ h => h.2.2.2.2.2.2.2.1) rfl dX5_count_84 ?_
    refine g_si (nI hr.1) (hh.1) ?_
    exact g_iret 87 O dX5_count_87 (by rw [hP0, c0]; exact ⟨rfl, rfl⟩)
  ·
    refine g_si 4 (c0) ?_
    refine g_tabIn 1 O 88 dX5_count_1 (by decide) (by decide) rfl (by decide) ?_
    refine g_aload_n 88 O dX5_count_88 rfl 0 rfl ?_
    refine g_get 89 O (v := .int rds) inX5 0 rfl rfl 9 (by decide) kf_X5_182 rfl dX5_count_89 ?_
    exact g_iret 92 O dX5_count_92 (by rw [hP0, c0]; exact ⟨rfl, rfl⟩)
  ·
    refine g_si 5 (c0) ?_
    refine g_tabIn 1 O 93 dX5_count_1 (by decide) (by decide) rfl (by decide) ?_
    refine g_aload_n 93 O dX5_count_93 rfl 0 rfl ?_
    refine g_get 94 O (v := .int w) inX5 0 rfl rfl 8 (by decide) kf_X5_124 rfl dX5_count_94 ?_
    refine g_si (nI wn) (hw) ?_
    exact g_iret 97 O dX5_count_97 (by rw [hP0, c0]; exact ⟨rfl, rfl⟩)
  ·
    refine g_si 6 (c0) ?_
    refine g_tabIn 1 O 98 dX5_count_1 (by decide) (by decide) rfl (by decide) ?_
    refine g_aload_n 98 O dX5_count_98 rfl 0 rfl ?_
    refine g_get 99 O (v := .ref (a 30)) inX5 0 rfl rfl 6 (by decide) kf_X5_43 rfl dX5_count_99 ?_
    refine g_getN 102 O (v := .int t.1) inX4 30 rfl rfl 1 (by decide) (fun _ h => h.2.2.2.2.2.2.2.2.1) rfl dX5_count_102 ?_
    refine g_si (nI tl.1) (ht.1) ?_
    exact g_iret 105 O dX5_count_105 (by rw [hP0, c0]; exact ⟨rfl, rfl⟩)
  ·
    refine g_si 7 (c0) ?_
    refine g_tabIn 1 O 106 dX5_count_1 (by decide) (by decide) rfl (by decide) ?_
    refine g_aload_n 106 O dX5_count_106 rfl 0 rfl ?_
    refine g_get 107 O (v := .ref (a 1)) inX5 0 rfl rfl 0 (by decide) kf_X5_10 rfl dX5_count_107 ?_
    refine g_getN 110 O (v := .int pg.1) inX2 1 rfl rfl 1 (by decide) (fun _ h => h.1) rfl dX5_count_110 ?_
    refine g_si (nI pn) (by rw [hpg]) ?_
    exact g_iret 113 O dX5_count_113 (by rw [hP0, c0]; exact ⟨rfl, rfl⟩)
  ·
    refine g_si 8 (c0) ?_
    refine g_tabIn 1 O 114 dX5_count_1 (by decide) (by decide) rfl (by decide) ?_
    refine g_aload_n 114 O dX5_count_114 rfl 0 rfl ?_
    refine g_get 115 O (v := .int sd) inX5 0 rfl rfl 10 (by decide) kf_X5_88 rfl dX5_count_115 ?_
    exact g_iret 118 O dX5_count_118 (by rw [hP0, c0]; exact ⟨rfl, rfl⟩)
  ·
    refine g_si 9 (c0) ?_
    refine g_tabIn 1 O 119 dX5_count_1 (by decide) (by decide) rfl (by decide) ?_
    refine g_aload_n 119 O dX5_count_119 rfl 0 rfl ?_
    refine g_get 120 O (v := .int ad) inX5 0 rfl rfl 11 (by decide) kf_X5_208 rfl dX5_count_120 ?_
    refine g_si (nI adn) (had) ?_
    exact g_iret 123 O dX5_count_123 (by rw [hP0, c0]; exact ⟨rfl, rfl⟩)
  ·
    refine g_tabOut 1 O 124 dX5_count_1 (c0) (by decide) ?_
    refine g_bipush 124 O (v := (-102)) dX5_count_124 (by decide) ?_
    exact g_iret 126 O dX5_count_126 (by obtain ⟨n0, n1, n2, n3, n4, n5, n6, n7, n8, n9⟩ := sw9_out c0; rw [hP0, cntN, if_neg n0, if_neg n1, if_neg n2, if_neg n3, if_neg n4, if_neg n5, if_neg n6, if_neg n7, if_neg n8, if_neg n9]; exact ⟨rfl, rfl⟩)
