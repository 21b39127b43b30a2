theorem upd_ext {f g : Nat → Int32} {k : Nat} {x : Int32} (h : ∀ i, i < k → f i = g i) (hx : x = g k) : ∀ i, i < k + 1 → upd f k x i = g i := by
  intro i hi
  by_cases e : i = k
  · rw [e, upd_s, hx]
  · rw [upd_n _ _ e]; exact h i (by omega)
theorem updL_ext {f g : Nat → Int64} {k : Nat} {x : Int64} (h : ∀ i, i < k → f i = g i) (hx : x = g k) : ∀ i, i < k + 1 → vp_updL f k x i = g i := by
  intro i hi
  by_cases e : i = k
  · rw [e, updL_s, hx]
  · rw [updL_n _ _ e]; exact h i (by omega)
theorem m1_ok : ∀ n, n ≤ 4 → ∀ k, k ≤ 4 → (nI n - 1 ≤ nI k ↔ n ≤ k + 1) := by decide +kernel
theorem p2_ok : ∀ n, n ≤ 4 → (1 : Int32) <<< (nI n &&& 31) = nI (2 ^ n) := by decide +kernel
theorem dv_ok : ∀ n, n ≤ 4 → ∀ r, r < 640 → nI r / nI (2 ^ n) = nI (r / 2 ^ n) ∧ nI r - nI (r / 2 ^ n) * nI (2 ^ n) = nI (r % 2 ^ n) := by decide +kernel
theorem wd2 : ∀ t, t < 6 → ∀ b : Bool, nI (2 * t + b.toNat) / 2 = nI t ∧ nI (2 * t + b.toNat) - nI t * 2 = bi b := by decide +kernel
theorem sb16 : ∀ s, s < 16 → ∀ k, k < 4 → (nI s >>> (nI k &&& 31)) &&& 1 = bi (s.testBit k) := by decide +kernel
/-- the reference's rows hold the saying y -/
def YM (w j : Nat → Int32) (y : Sy) : Prop := y.1 ≤ 4 ∧ (∀ k, k < y.1 → w k = nI (2 * y.2.1 k + (y.2.2.1 k).toNat) ∧ y.2.1 k < 6) ∧ (∀ k, k + 1 < y.1 → j k = bi (y.2.2.2 (k + 1)))
theorem YM0 {w w' j j' : Nat → Int32} {y : Sy} (h : YM w j y) : YM (fun k => if (0 : Int32) = 0 then w k else w' k) (fun k => if (0 : Int32) = 0 then j k else j' k) y :=
  ⟨h.1, fun k hk => by simp only [if_true]; exact h.2.1 k hk, fun k hk => by simp only [if_true]; exact h.2.2 k hk⟩
theorem YM1 {w w' j j' : Nat → Int32} {y : Sy} (h : YM w' j' y) : YM (fun k => if (1 : Int32) = 0 then w k else w' k) (fun k => if (1 : Int32) = 0 then j k else j' k) y :=
  ⟨h.1, fun k hk => by show (if (1 : Int32) = 0 then w k else w' k) = _ ∧ _; rw [if_neg (by decide : ¬ (1 : Int32) = 0)]; exact h.2.1 k hk, fun k hk => by show (if (1 : Int32) = 0 then j k else j' k) = _; rw [if_neg (by decide : ¬ (1 : Int32) = 0)]; exact h.2.2 k hk⟩

set_option maxRecDepth 100000 in
set_option maxHeartbeats 4000000 in
theorem c_X6_wordAt (l : Launch) (E : Ev) (a : Nat → Nat) (mw msd mn mon mhn mrd mtn mad mpn : Int32) (se wo jf ow oj kf ff vf cf tf pb : Nat → Int32) (fat whl nw : Int32) (nwd njn : Nat → Int32) (rd : Int32) (so vl : Nat → Int64) (jg : Nat → Int32) (tko : Nat → Int32) (sdn hh_ : Int64) (ik kw kh kr kt : Int32) (kc ko : Nat → Int32) (p0 p1 : Int32) (k : Nat) (hp : p0 = nI k) (hk : k < 4) : Ctr l yX6_wordAt cX6_wordAt 3 (some .int) 0 0 E (wM E a) [.ref (a 0), .int p0, .int p1] (((mw, msd, mn, mon, mhn, mrd, mtn, mad, mpn), (se, wo, jf, ow, oj, kf, ff, vf, cf, tf, pb), (fat, whl, nw, nwd, njn), (rd, so, vl, jg), tko, (sdn, hh_), (ik, kw, kh, kr, kt, kc, ko))) (fun v8 s8 => v8 = some (.int (if p1 = 0 then wo k else ow k)) ∧ s8 = ((mw, msd, mn, mon, mhn, mrd, mtn, mad, mpn), (se, wo, jf, ow, oj, kf, ff, vf, cf, tf, pb), (fat, whl, nw, nwd, njn), (rd, so, vl, jg), tko, (sdn, hh_), (ik, kw, kh, kr, kt, kc, ko))) := by
  refine Ctr.of' (by decide +kernel) (Nat.le_of_ble_eq_true rfl) (fun X P0 hP0 O => ?_)
  refine g_sub [0, 1, 2] (lv' := [(0, .ref (a 0)), (1, .int p0), (2, .int p1)]) rfl ?_
  refine g_iload_n 0 O dX6_wordAt_0 rfl 2 rfl ?_
  refine g_if_ne 1 O 13 dX6_wordAt_1 (by decide) (fun h1 => ?_) (fun h1 => ?_)
  · -- taken
    refine g_aload_n 13 O dX6_wordAt_13 rfl 0 rfl ?_
    refine g_get 14 O (v := .ref (a 4)) inX6 0 rfl rfl 7 (by decide) kf_X6_19 rfl dX6_wordAt_14 ?_
    refine g_iload_n 17 O dX6_wordAt_17 rfl 1 rfl ?_
    refine g_iald 18 O 4 k rfl (hp) (by omega) (by decide) dX6_wordAt_18 ?_
    exact g_iret 19 O dX6_wordAt_19 (by rw [hP0, if_neg h1]; exact ⟨rfl, rfl⟩)
  · -- not taken
    refine g_aload_n 4 O dX6_wordAt_4 rfl 0 rfl ?_
    refine g_get 5 O (v := .ref (a 2)) inX6 0 rfl rfl 4 (by decide) kf_X6_13 rfl dX6_wordAt_5 ?_
    refine g_iload_n 8 O dX6_wordAt_8 rfl 1 rfl ?_
    refine g_iald 9 O 2 k rfl (hp) (by omega) (by decide) dX6_wordAt_9 ?_
    refine g_goto 10 O 19 dX6_wordAt_10 (by decide) ?_
    exact g_iret 19 O dX6_wordAt_19 (by rw [hP0, if_pos h1]; exact ⟨rfl, rfl⟩)

set_option maxRecDepth 100000 in
set_option maxHeartbeats 4000000 in
theorem c_X6_joinAt (l : Launch) (E : Ev) (a : Nat → Nat) (mw msd mn mon mhn mrd mtn mad mpn : Int32) (se wo jf ow oj kf ff vf cf tf pb : Nat → Int32) (fat whl nw : Int32) (nwd njn : Nat → Int32) (rd : Int32) (so vl : Nat → Int64) (jg : Nat → Int32) (tko : Nat → Int32) (sdn hh_ : Int64) (ik kw kh kr kt : Int32) (kc ko : Nat → Int32) (p0 p1 : Int32) (k : Nat) (hp : p0 = nI k) (hk : k < 4) : Ctr l yX6_joinAt cX6_joinAt 3 (some .int) 0 0 E (wM E a) [.ref (a 0), .int p0, .int p1] (((mw, msd, mn, mon, mhn, mrd, mtn, mad, mpn), (se, wo, jf, ow, oj, kf, ff, vf, cf, tf, pb), (fat, whl, nw, nwd, njn), (rd, so, vl, jg), tko, (sdn, hh_), (ik, kw, kh, kr, kt, kc, ko))) (fun v8 s8 => v8 = some (.int (if p1 = 0 then jf k else oj k)) ∧ s8 = ((mw, msd, mn, mon, mhn, mrd, mtn, mad, mpn), (se, wo, jf, ow, oj, kf, ff, vf, cf, tf, pb), (fat, whl, nw, nwd, njn), (rd, so, vl, jg), tko, (sdn, hh_), (ik, kw, kh, kr, kt, kc, ko))) := by
  refine Ctr.of' (by decide +kernel) (Nat.le_of_ble_eq_true rfl) (fun X P0 hP0 O => ?_)
  refine g_sub [0, 1, 2] (lv' := [(0, .ref (a 0)), (1, .int p0), (2, .int p1)]) rfl ?_
  refine g_iload_n 0 O dX6_joinAt_0 rfl 2 rfl ?_
  refine g_if_ne 1 O 13 dX6_joinAt_1 (by decide) (fun h1 => ?_) (fun h1 => ?_)
  · -- taken
    refine g_aload_n 13 O dX6_joinAt_13 rfl 0 rfl ?_
    refine g_get 14 O (v := .ref (a 5)) inX6 0 rfl rfl 8 (by decide) kf_X6_22 rfl dX6_joinAt_14 ?_
    refine g_iload_n 17 O dX6_joinAt_17 rfl 1 rfl ?_
    refine g_iald 18 O 5 k rfl (hp) (by omega) (by decide) dX6_joinAt_18 ?_
    exact g_iret 19 O dX6_joinAt_19 (by rw [hP0, if_neg h1]; exact ⟨rfl, rfl⟩)
  · -- not taken
    refine g_aload_n 4 O dX6_joinAt_4 rfl 0 rfl ?_
    refine g_get 5 O (v := .ref (a 3)) inX6 0 rfl rfl 5 (by decide) kf_X6_16 rfl dX6_joinAt_5 ?_
    refine g_iload_n 8 O dX6_joinAt_8 rfl 1 rfl ?_
    refine g_iald 9 O 3 k rfl (hp) (by omega) (by decide) dX6_joinAt_9 ?_
    refine g_goto 10 O 19 dX6_joinAt_10 (by decide) ?_
    exact g_iret 19 O dX6_joinAt_19 (by rw [hP0, if_pos h1]; exact ⟨rfl, rfl⟩)

set_option maxRecDepth 100000 in
set_option maxHeartbeats 4000000 in
theorem c_X6_bothMany (l : Launch) (E : Ev) (a : Nat → Nat) (mw msd mn mon mhn mrd mtn mad mpn : Int32) (se wo jf ow oj kf ff vf cf tf pb : Nat → Int32) (fat whl nw : Int32) (nwd njn : Nat → Int32) (rd : Int32) (so vl : Nat → Int64) (jg : Nat → Int32) (tko : Nat → Int32) (sdn hh_ : Int64) (ik kw kh kr kt : Int32) (kc ko : Nat → Int32) (p1 : Int32) (y : Sy) (n : Nat) (hn : n = y.1) (hy : YM (fun k => if p1 = 0 then wo k else ow k) (fun k => if p1 = 0 then jf k else oj k) y) : Ctr l yX6_bothMany cX6_bothMany 5 (some .int) 1 22 E (wM E a) [.ref (a 0), .int ((nI n)), .int p1] (((mw, msd, mn, mon, mhn, mrd, mtn, mad, mpn), (se, wo, jf, ow, oj, kf, ff, vf, cf, tf, pb), (fat, whl, nw, nwd, njn), (rd, so, vl, jg), tko, (sdn, hh_), (ik, kw, kh, kr, kt, kc, ko))) (fun v8 s8 => v8 = some (.int (nI (npl y.2.2.2 n))) ∧ s8 = ((mw, msd, mn, mon, mhn, mrd, mtn, mad, mpn), (se, wo, jf, ow, oj, kf, ff, vf, cf, tf, pb), (fat, whl, nw, nwd, njn), (rd, so, vl, jg), tko, (sdn, hh_), (ik, kw, kh, kr, kt, kc, ko))) := by
  refine Ctr.of' (by decide +kernel) (Nat.le_of_ble_eq_true rfl) (fun X P0 hP0 O => ?_)
  refine g_sub [0, 1, 2] (lv' := [(0, .ref (a 0)), (1, .int ((nI n))), (2, .int p1)]) rfl ?_
  have hy4 := hy.1
  refine g_iconst 0 O (v := 0) dX6_bothMany_0 (by decide) ?_
  refine g_istore_n 1 O (lv' := [(3, .int 0), (0, .ref (a 0)), (1, .int ((nI n))), (2, .int p1)]) dX6_bothMany_1 rfl (by decide) rfl ?_
  refine g_iconst 2 O (v := 0) dX6_bothMany_2 (by decide) ?_
  refine g_istore 3 O (lv' := [(4, .int 0), (3, .int 0), (0, .ref (a 0)), (1, .int ((nI n))), (2, .int p1)]) dX6_bothMany_3 (by decide) rfl ?_
  refine g_sub [0, 1, 2, 3, 4] (lv' := [(4, .int 0), (3, .int 0), (0, .ref (a 0)), (1, .int ((nI n))), (2, .int p1)]) rfl ?_
  have L5 : ∀ (fuel : Nat) (k : Nat) (hk : k ≤ n - 1), n - k < fuel → G l E (wM E a) P0 X 5 (((mw, msd, mn, mon, mhn, mrd, mtn, mad, mpn), (se, wo, jf, ow, oj, kf, ff, vf, cf, tf, pb), (fat, whl, nw, nwd, njn), (rd, so, vl, jg), tko, (sdn, hh_), (ik, kw, kh, kr, kt, kc, ko))) 5 [(4, .int (nI k)), (3, .int (nI (cn (fun j => y.2.2.2 (j + 1)) k))), (0, .ref (a 0)), (1, .int ((nI n))), (2, .int p1)] [] := by
    intro fuel
    induction fuel with
    | zero => intro k hk hfu; exact absurd hfu (Nat.not_lt_zero _)
    | succ fuel ih5 =>
      intro k hk hfu
      refine g_iload 5 O dX6_bothMany_5 0 rfl ?_
      refine g_iload_n 7 O dX6_bothMany_7 rfl 3 rfl ?_
      refine g_iconst 8 O (v := 1) dX6_bothMany_8 (by decide) ?_
      refine g_isub 9 O dX6_bothMany_9 ?_
      refine g_icmp_ge 10 O 38 dX6_bothMany_10 (by decide) (fun h10 => ?_) (fun h10 => ?_)
      · -- taken
        have e : k = n - 1 := by have := (m1_ok n (by omega) k (by omega)).mp h10; omega
        subst e
        refine g_iload_n 38 O dX6_bothMany_38 rfl 1 rfl ?_
        exact g_iret 39 O dX6_bothMany_39 (by rw [hP0]; exact ⟨rfl, rfl⟩)
      · -- not taken
        have hlt : k + 1 < n := by have := mt (m1_ok n (by omega) k (by omega)).mpr h10; omega
        refine g_iload_n 13 O dX6_bothMany_13 rfl 1 rfl ?_
        refine g_aload_n 14 O dX6_bothMany_14 rfl 2 rfl ?_
        refine g_iload 15 O dX6_bothMany_15 0 rfl ?_
        refine g_iload_n 17 O dX6_bothMany_17 rfl 4 rfl ?_
        refine g_callV 18 O (na := 2) (av := [.int (nI k), .int p1]) (c_X6_joinAt l E a mw msd mn mon mhn mrd mtn mad mpn se wo jf ow oj kf ff vf cf tf pb fat whl nw nwd njn rd so vl jg tko sdn hh_ ik kw kh kr kt kc ko (nI k) p1 k rfl (by omega)) kl_X6_117 km_X6_joinAt kv_X6_joinAt ki_X6 kc_X6_joinAt (by decide +kernel) rfl (Nat.le_of_ble_eq_true rfl) (Nat.le_of_ble_eq_true rfl) (fun _ h => h) 0 rfl rfl (fun s => s) (fun _ _ _ _ h => h) rfl (Nat.le_of_ble_eq_true rfl) dX6_bothMany_18 (fun v9 s9 hv9 => ?_)
        obtain ⟨rfl, rfl⟩ := hv9
        refine g_si (bi (y.2.2.2 (k + 1))) (hy.2.2 k (by omega)) ?_
        refine g_iconst 21 O (v := 1) dX6_bothMany_21 (by decide) ?_
        refine g_icmp_ne 22 O 29 dX6_bothMany_22 (by decide) (fun h22 => ?_) (fun h22 => ?_)
        · -- taken
          refine g_iconst 29 O (v := 0) dX6_bothMany_29 (by decide) ?_
          refine g_iadd 30 O dX6_bothMany_30 ?_
          refine g_si (nI (cn (fun j => y.2.2.2 (j + 1)) (k + 1))) (cn_f (p := fun j => y.2.2.2 (j + 1)) (bi_n1 h22)) ?_
          refine g_istore_n 31 O (lv' := [(3, .int (nI (cn (fun j => y.2.2.2 (j + 1)) (k + 1)))), (4, .int (nI k)), (0, .ref (a 0)), (1, .int ((nI n))), (2, .int p1)]) dX6_bothMany_31 rfl (by decide) rfl ?_
          refine g_iinc 32 O (v := nI (k + 1)) (q := 1) (lv' := [(4, .int (nI (k + 1))), (3, .int (nI (cn (fun j => y.2.2.2 (j + 1)) (k + 1)))), (0, .ref (a 0)), (1, .int ((nI n))), (2, .int p1)]) dX6_bothMany_32 rfl (nI_1 k) (by decide) rfl ?_
          refine g_goto 35 O 5 dX6_bothMany_35 (by decide) ?_
          refine g_sub [0, 1, 2, 3, 4] (lv' := [(4, .int (nI (k + 1))), (3, .int (nI (cn (fun j => y.2.2.2 (j + 1)) (k + 1)))), (0, .ref (a 0)), (1, .int ((nI n))), (2, .int p1)]) rfl ?_
          exact ih5 (k + 1) (by omega) (by omega)
        · -- not taken
          refine g_iconst 25 O (v := 1) dX6_bothMany_25 (by decide) ?_
          refine g_goto 26 O 30 dX6_bothMany_26 (by decide) ?_
          refine g_iadd 30 O dX6_bothMany_30 ?_
          refine g_si (nI (cn (fun j => y.2.2.2 (j + 1)) (k + 1))) (cn_t (p := fun j => y.2.2.2 (j + 1)) (bi_1 h22)) ?_
          refine g_istore_n 31 O (lv' := [(3, .int (nI (cn (fun j => y.2.2.2 (j + 1)) (k + 1)))), (4, .int (nI k)), (0, .ref (a 0)), (1, .int ((nI n))), (2, .int p1)]) dX6_bothMany_31 rfl (by decide) rfl ?_
          refine g_iinc 32 O (v := nI (k + 1)) (q := 1) (lv' := [(4, .int (nI (k + 1))), (3, .int (nI (cn (fun j => y.2.2.2 (j + 1)) (k + 1)))), (0, .ref (a 0)), (1, .int ((nI n))), (2, .int p1)]) dX6_bothMany_32 rfl (nI_1 k) (by decide) rfl ?_
          refine g_goto 35 O 5 dX6_bothMany_35 (by decide) ?_
          refine g_sub [0, 1, 2, 3, 4] (lv' := [(4, .int (nI (k + 1))), (3, .int (nI (cn (fun j => y.2.2.2 (j + 1)) (k + 1)))), (0, .ref (a 0)), (1, .int ((nI n))), (2, .int p1)]) rfl ?_
          exact ih5 (k + 1) (by omega) (by omega)
  exact L5 _ 0 (Nat.zero_le _) (Nat.lt_succ_self _)

set_option maxRecDepth 100000 in
set_option maxHeartbeats 4000000 in
theorem c_X6_ofFour (l : Launch) (E : Ev) (a : Nat → Nat) (mw msd mn mon mhn mrd mtn mad mpn : Int32) (se wo jf ow oj kf ff vf cf tf pb : Nat → Int32) (fat whl nw : Int32) (nwd njn : Nat → Int32) (rd : Int32) (so vl : Nat → Int64) (jg : Nat → Int32) (tko : Nat → Int32) (sdn hh_ : Int64) (ik kw kh kr kt : Int32) (kc ko : Nat → Int32) (p0 : Int32) (b : Nat) (o : Nat → Bool) (hb : p0 = nI b) (hb5 : b < 5) (ho : ∀ k, k < 3 → jg k = bi (o k)) : Ctr l yX6_ofFour cX6_ofFour 13 (some .long) 1 24 E (wM E a) [.ref (a 0), .int p0, .long (vl 0), .long (vl 1), .long (vl 2), .long (vl 3)] (((mw, msd, mn, mon, mhn, mrd, mtn, mad, mpn), (se, wo, jf, ow, oj, kf, ff, vf, cf, tf, pb), (fat, whl, nw, nwd, njn), (rd, so, vl, jg), tko, (sdn, hh_), (ik, kw, kh, kr, kt, kc, ko))) (fun v8 s8 => v8 = some (.long (br4 b o vl)) ∧ s8 = ((mw, msd, mn, mon, mhn, mrd, mtn, mad, mpn), (se, wo, jf, ow, oj, kf, ff, vf, cf, tf, pb), (fat, whl, nw, nwd, njn), (rd, so, vl, jg), tko, (sdn, hh_), (ik, kw, kh, kr, kt, kc, ko))) := by
  refine Ctr.of' (by decide +kernel) (Nat.le_of_ble_eq_true rfl) (fun X P0 hP0 O => ?_)
  refine g_sub [0, 1, 2, 3, 4, 5] (lv' := [(0, .ref (a 0)), (1, .int p0), (2, .long (vl 0)), (4, .long (vl 1)), (6, .long (vl 2)), (8, .long (vl 3))]) rfl ?_
  refine g_aload_n 0 O dX6_ofFour_0 rfl 0 rfl ?_
  refine g_get 1 O (v := .ref (a 16)) inX6 0 rfl rfl 28 (by decide) kf_X6_57 rfl dX6_ofFour_1 ?_
  refine g_iconst 4 O (v := 0) dX6_ofFour_4 (by decide) ?_
  refine g_iald 5 O 16 0 rfl (rfl) (by decide) (by decide) dX6_ofFour_5 ?_
  refine g_istore 6 O (lv' := [(10, .int (jg 0)), (0, .ref (a 0)), (1, .int p0), (2, .long (vl 0)), (4, .long (vl 1)), (6, .long (vl 2)), (8, .long (vl 3))]) dX6_ofFour_6 (by decide) rfl ?_
  refine g_aload_n 8 O dX6_ofFour_8 rfl 1 rfl ?_
  refine g_get 9 O (v := .ref (a 16)) inX6 0 rfl rfl 28 (by decide) kf_X6_57 rfl dX6_ofFour_9 ?_
  refine g_iconst 12 O (v := 1) dX6_ofFour_12 (by decide) ?_
  refine g_iald 13 O 16 1 rfl (rfl) (by decide) (by decide) dX6_ofFour_13 ?_
  refine g_istore 14 O (lv' := [(11, .int (jg 1)), (10, .int (jg 0)), (0, .ref (a 0)), (1, .int p0), (2, .long (vl 0)), (4, .long (vl 1)), (6, .long (vl 2)), (8, .long (vl 3))]) dX6_ofFour_14 (by decide) rfl ?_
  refine g_aload_n 16 O dX6_ofFour_16 rfl 2 rfl ?_
  refine g_get 17 O (v := .ref (a 16)) inX6 0 rfl rfl 28 (by decide) kf_X6_57 rfl dX6_ofFour_17 ?_
  refine g_iconst 20 O (v := 2) dX6_ofFour_20 (by decide) ?_
  refine g_iald 21 O 16 2 rfl (rfl) (by decide) (by decide) dX6_ofFour_21 ?_
  refine g_istore 22 O (lv' := [(12, .int (jg 2)), (11, .int (jg 1)), (10, .int (jg 0)), (0, .ref (a 0)), (1, .int p0), (2, .long (vl 0)), (4, .long (vl 1)), (6, .long (vl 2)), (8, .long (vl 3))]) dX6_ofFour_22 (by decide) rfl ?_
  refine g_iload_n 24 O dX6_ofFour_24 rfl 4 rfl ?_
  have h5 : b = 0 ∨ b = 1 ∨ b = 2 ∨ b = 3 ∨ b = 4 := by omega
  rcases h5 with rfl | rfl | rfl | rfl | rfl
  ·
    refine g_si 0 (hb) ?_
    refine g_tabIn 25 O 56 dX6_ofFour_25 (by decide) (by decide) rfl (by decide) ?_
    refine g_lload_n 56 O dX6_ofFour_56 rfl 5 rfl ?_
    refine g_iload 57 O dX6_ofFour_57 2 rfl ?_
    refine g_lload 59 O dX6_ofFour_59 6 rfl ?_
    refine g_callS 61 O (na := 3) (av := [.long (vl 0), .int (jg 0), .long (vl 1)]) (c_X6_joined l E _ _ (vl 0) (jg 0) (vl 1) (o 0) (ho 0 (by omega))) kl_X6_140 ks_X6_joined ki_X6 kc_X6_joined (by decide +kernel) rfl (Nat.le_of_ble_eq_true rfl) (Nat.le_of_ble_eq_true rfl) (fun _ h => h) (fun s => s) (fun _ _ _ _ h => h) rfl (Nat.le_of_ble_eq_true rfl) dX6_ofFour_61 (fun v9 s9 hv9 => ?_)
    obtain ⟨rfl, rfl⟩ := hv9
    refine g_iload 64 O dX6_ofFour_64 1 rfl ?_
    refine g_lload 66 O dX6_ofFour_66 7 rfl ?_
    refine g_callS 68 O (na := 3) (av := [.long (jn ((o 0)) (vl 0) (vl 1)), .int (jg 1), .long (vl 2)]) (c_X6_joined l E _ _ (jn ((o 0)) (vl 0) (vl 1)) (jg 1) (vl 2) (o 1) (ho 1 (by omega))) kl_X6_140 ks_X6_joined ki_X6 kc_X6_joined (by decide +kernel) rfl (Nat.le_of_ble_eq_true rfl) (Nat.le_of_ble_eq_true rfl) (fun _ h => h) (fun s => s) (fun _ _ _ _ h => h) rfl (Nat.le_of_ble_eq_true rfl) dX6_ofFour_68 (fun v9 s9 hv9 => ?_)
    obtain ⟨rfl, rfl⟩ := hv9
    refine g_iload 71 O dX6_ofFour_71 0 rfl ?_
    refine g_lload 73 O dX6_ofFour_73 8 rfl ?_
    refine g_callS 75 O (na := 3) (av := [.long (jn ((o 1)) (jn ((o 0)) (vl 0) (vl 1)) (vl 2)), .int (jg 2), .long (vl 3)]) (c_X6_joined l E _ _ (jn ((o 1)) (jn ((o 0)) (vl 0) (vl 1)) (vl 2)) (jg 2) (vl 3) (o 2) (ho 2 (by omega))) kl_X6_140 ks_X6_joined ki_X6 kc_X6_joined (by decide +kernel) rfl (Nat.le_of_ble_eq_true rfl) (Nat.le_of_ble_eq_true rfl) (fun _ h => h) (fun s => s) (fun _ _ _ _ h => h) rfl (Nat.le_of_ble_eq_true rfl) dX6_ofFour_75 (fun v9 s9 hv9 => ?_)
    obtain ⟨rfl, rfl⟩ := hv9
    exact g_lret 78 O dX6_ofFour_78 (by rw [hP0]; exact ⟨rfl, rfl⟩)
  ·
    refine g_si 1 (hb) ?_
    refine g_tabIn 25 O 79 dX6_ofFour_25 (by decide) (by decide) rfl (by decide) ?_
    refine g_lload_n 79 O dX6_ofFour_79 rfl 5 rfl ?_
    refine g_iload 80 O dX6_ofFour_80 2 rfl ?_
    refine g_lload 82 O dX6_ofFour_82 6 rfl ?_
    refine g_iload 84 O dX6_ofFour_84 1 rfl ?_
    refine g_lload 86 O dX6_ofFour_86 7 rfl ?_
    refine g_callS 88 O (na := 3) (av := [.long (vl 1), .int (jg 1), .long (vl 2)]) (c_X6_joined l E _ _ (vl 1) (jg 1) (vl 2) (o 1) (ho 1 (by omega))) kl_X6_140 ks_X6_joined ki_X6 kc_X6_joined (by decide +kernel) rfl (Nat.le_of_ble_eq_true rfl) (Nat.le_of_ble_eq_true rfl) (fun _ h => h) (fun s => s) (fun _ _ _ _ h => h) rfl (Nat.le_of_ble_eq_true rfl) dX6_ofFour_88 (fun v9 s9 hv9 => ?_)
    obtain ⟨rfl, rfl⟩ := hv9
    refine g_callS 91 O (na := 3) (av := [.long (vl 0), .int (jg 0), .long (jn ((o 1)) (vl 1) (vl 2))]) (c_X6_joined l E _ _ (vl 0) (jg 0) (jn ((o 1)) (vl 1) (vl 2)) (o 0) (ho 0 (by omega))) kl_X6_140 ks_X6_joined ki_X6 kc_X6_joined (by decide +kernel) rfl (Nat.le_of_ble_eq_true rfl) (Nat.le_of_ble_eq_true rfl) (fun _ h => h) (fun s => s) (fun _ _ _ _ h => h) rfl (Nat.le_of_ble_eq_true rfl) dX6_ofFour_91 (fun v9 s9 hv9 => ?_)
    obtain ⟨rfl, rfl⟩ := hv9
    refine g_iload 94 O dX6_ofFour_94 0 rfl ?_
    refine g_lload 96 O dX6_ofFour_96 8 rfl ?_
    refine g_callS 98 O (na := 3) (av := [.long (jn ((o 0)) (vl 0) (jn ((o 1)) (vl 1) (vl 2))), .int (jg 2), .long (vl 3)]) (c_X6_joined l E _ _ (jn ((o 0)) (vl 0) (jn ((o 1)) (vl 1) (vl 2))) (jg 2) (vl 3) (o 2) (ho 2 (by omega))) kl_X6_140 ks_X6_joined ki_X6 kc_X6_joined (by decide +kernel) rfl (Nat.le_of_ble_eq_true rfl) (Nat.le_of_ble_eq_true rfl) (fun _ h => h) (fun s => s) (fun _ _ _ _ h => h) rfl (Nat.le_of_ble_eq_true rfl) dX6_ofFour_98 (fun v9 s9 hv9 => ?_)
    obtain ⟨rfl, rfl⟩ := hv9
    exact g_lret 101 O dX6_ofFour_101 (by rw [hP0]; exact ⟨rfl, rfl⟩)
  ·
    refine g_si 2 (hb) ?_
    refine g_tabIn 25 O 102 dX6_ofFour_25 (by decide) (by decide) rfl (by decide) ?_
    refine g_lload_n 102 O dX6_ofFour_102 rfl 5 rfl ?_
    refine g_iload 103 O dX6_ofFour_103 2 rfl ?_
    refine g_lload 105 O dX6_ofFour_105 6 rfl ?_
    refine g_callS 107 O (na := 3) (av := [.long (vl 0), .int (jg 0), .long (vl 1)]) (c_X6_joined l E _ _ (vl 0) (jg 0) (vl 1) (o 0) (ho 0 (by omega))) kl_X6_140 ks_X6_joined ki_X6 kc_X6_joined (by decide +kernel) rfl (Nat.le_of_ble_eq_true rfl) (Nat.le_of_ble_eq_true rfl) (fun _ h => h) (fun s => s) (fun _ _ _ _ h => h) rfl (Nat.le_of_ble_eq_true rfl) dX6_ofFour_107 (fun v9 s9 hv9 => ?_)
    obtain ⟨rfl, rfl⟩ := hv9
    refine g_iload 110 O dX6_ofFour_110 1 rfl ?_
    refine g_lload 112 O dX6_ofFour_112 7 rfl ?_
    refine g_iload 114 O dX6_ofFour_114 0 rfl ?_
    refine g_lload 116 O dX6_ofFour_116 8 rfl ?_
    refine g_callS 118 O (na := 3) (av := [.long (vl 2), .int (jg 2), .long (vl 3)]) (c_X6_joined l E _ _ (vl 2) (jg 2) (vl 3) (o 2) (ho 2 (by omega))) kl_X6_140 ks_X6_joined ki_X6 kc_X6_joined (by decide +kernel) rfl (Nat.le_of_ble_eq_true rfl) (Nat.le_of_ble_eq_true rfl) (fun _ h => h) (fun s => s) (fun _ _ _ _ h => h) rfl (Nat.le_of_ble_eq_true rfl) dX6_ofFour_118 (fun v9 s9 hv9 => ?_)
    obtain ⟨rfl, rfl⟩ := hv9
    refine g_callS 121 O (na := 3) (av := [.long (jn ((o 0)) (vl 0) (vl 1)), .int (jg 1), .long (jn ((o 2)) (vl 2) (vl 3))]) (c_X6_joined l E _ _ (jn ((o 0)) (vl 0) (vl 1)) (jg 1) (jn ((o 2)) (vl 2) (vl 3)) (o 1) (ho 1 (by omega))) kl_X6_140 ks_X6_joined ki_X6 kc_X6_joined (by decide +kernel) rfl (Nat.le_of_ble_eq_true rfl) (Nat.le_of_ble_eq_true rfl) (fun _ h => h) (fun s => s) (fun _ _ _ _ h => h) rfl (Nat.le_of_ble_eq_true rfl) dX6_ofFour_121 (fun v9 s9 hv9 => ?_)
    obtain ⟨rfl, rfl⟩ := hv9
    exact g_lret 124 O dX6_ofFour_124 (by rw [hP0]; exact ⟨rfl, rfl⟩)
  ·
    refine g_si 3 (hb) ?_
    refine g_tabIn 25 O 125 dX6_ofFour_25 (by decide) (by decide) rfl (by decide) ?_
    refine g_lload_n 125 O dX6_ofFour_125 rfl 5 rfl ?_
    refine g_iload 126 O dX6_ofFour_126 2 rfl ?_
    refine g_lload 128 O dX6_ofFour_128 6 rfl ?_
    refine g_iload 130 O dX6_ofFour_130 1 rfl ?_
    refine g_lload 132 O dX6_ofFour_132 7 rfl ?_
    refine g_callS 134 O (na := 3) (av := [.long (vl 1), .int (jg 1), .long (vl 2)]) (c_X6_joined l E _ _ (vl 1) (jg 1) (vl 2) (o 1) (ho 1 (by omega))) kl_X6_140 ks_X6_joined ki_X6 kc_X6_joined (by decide +kernel) rfl (Nat.le_of_ble_eq_true rfl) (Nat.le_of_ble_eq_true rfl) (fun _ h => h) (fun s => s) (fun _ _ _ _ h => h) rfl (Nat.le_of_ble_eq_true rfl) dX6_ofFour_134 (fun v9 s9 hv9 => ?_)
    obtain ⟨rfl, rfl⟩ := hv9
    refine g_iload 137 O dX6_ofFour_137 0 rfl ?_
    refine g_lload 139 O dX6_ofFour_139 8 rfl ?_
    refine g_callS 141 O (na := 3) (av := [.long (jn ((o 1)) (vl 1) (vl 2)), .int (jg 2), .long (vl 3)]) (c_X6_joined l E _ _ (jn ((o 1)) (vl 1) (vl 2)) (jg 2) (vl 3) (o 2) (ho 2 (by omega))) kl_X6_140 ks_X6_joined ki_X6 kc_X6_joined (by decide +kernel) rfl (Nat.le_of_ble_eq_true rfl) (Nat.le_of_ble_eq_true rfl) (fun _ h => h) (fun s => s) (fun _ _ _ _ h => h) rfl (Nat.le_of_ble_eq_true rfl) dX6_ofFour_141 (fun v9 s9 hv9 => ?_)
    obtain ⟨rfl, rfl⟩ := hv9
    refine g_callS 144 O (na := 3) (av := [.long (vl 0), .int (jg 0), .long (jn ((o 2)) (jn ((o 1)) (vl 1) (vl 2)) (vl 3))]) (c_X6_joined l E _ _ (vl 0) (jg 0) (jn ((o 2)) (jn ((o 1)) (vl 1) (vl 2)) (vl 3)) (o 0) (ho 0 (by omega))) kl_X6_140 ks_X6_joined ki_X6 kc_X6_joined (by decide +kernel) rfl (Nat.le_of_ble_eq_true rfl) (Nat.le_of_ble_eq_true rfl) (fun _ h => h) (fun s => s) (fun _ _ _ _ h => h) rfl (Nat.le_of_ble_eq_true rfl) dX6_ofFour_144 (fun v9 s9 hv9 => ?_)
    obtain ⟨rfl, rfl⟩ := hv9
    exact g_lret 147 O dX6_ofFour_147 (by rw [hP0]; exact ⟨rfl, rfl⟩)
  ·
    refine g_tabOut 25 O 148 dX6_ofFour_25 (by rw [hb]; decide) (by decide) ?_
    refine g_lload_n 148 O dX6_ofFour_148 rfl 5 rfl ?_
    refine g_iload 149 O dX6_ofFour_149 2 rfl ?_
    refine g_lload 151 O dX6_ofFour_151 6 rfl ?_
    refine g_iload 153 O dX6_ofFour_153 1 rfl ?_
    refine g_lload 155 O dX6_ofFour_155 7 rfl ?_
    refine g_iload 157 O dX6_ofFour_157 0 rfl ?_
    refine g_lload 159 O dX6_ofFour_159 8 rfl ?_
    refine g_callS 161 O (na := 3) (av := [.long (vl 2), .int (jg 2), .long (vl 3)]) (c_X6_joined l E _ _ (vl 2) (jg 2) (vl 3) (o 2) (ho 2 (by omega))) kl_X6_140 ks_X6_joined ki_X6 kc_X6_joined (by decide +kernel) rfl (Nat.le_of_ble_eq_true rfl) (Nat.le_of_ble_eq_true rfl) (fun _ h => h) (fun s => s) (fun _ _ _ _ h => h) rfl (Nat.le_of_ble_eq_true rfl) dX6_ofFour_161 (fun v9 s9 hv9 => ?_)
    obtain ⟨rfl, rfl⟩ := hv9
    refine g_callS 164 O (na := 3) (av := [.long (vl 1), .int (jg 1), .long (jn ((o 2)) (vl 2) (vl 3))]) (c_X6_joined l E _ _ (vl 1) (jg 1) (jn ((o 2)) (vl 2) (vl 3)) (o 1) (ho 1 (by omega))) kl_X6_140 ks_X6_joined ki_X6 kc_X6_joined (by decide +kernel) rfl (Nat.le_of_ble_eq_true rfl) (Nat.le_of_ble_eq_true rfl) (fun _ h => h) (fun s => s) (fun _ _ _ _ h => h) rfl (Nat.le_of_ble_eq_true rfl) dX6_ofFour_164 (fun v9 s9 hv9 => ?_)
    obtain ⟨rfl, rfl⟩ := hv9
    refine g_callS 167 O (na := 3) (av := [.long (vl 0), .int (jg 0), .long (jn ((o 1)) (vl 1) (jn ((o 2)) (vl 2) (vl 3)))]) (c_X6_joined l E _ _ (vl 0) (jg 0) (jn ((o 1)) (vl 1) (jn ((o 2)) (vl 2) (vl 3))) (o 0) (ho 0 (by omega))) kl_X6_140 ks_X6_joined ki_X6 kc_X6_joined (by decide +kernel) rfl (Nat.le_of_ble_eq_true rfl) (Nat.le_of_ble_eq_true rfl) (fun _ h => h) (fun s => s) (fun _ _ _ _ h => h) rfl (Nat.le_of_ble_eq_true rfl) dX6_ofFour_167 (fun v9 s9 hv9 => ?_)
    obtain ⟨rfl, rfl⟩ := hv9
    exact g_lret 170 O dX6_ofFour_170 (by rw [hP0]; exact ⟨rfl, rfl⟩)

set_option maxRecDepth 100000 in
set_option maxHeartbeats 4000000 in
theorem c_X6_bracketed (l : Launch) (E : Ev) (a : Nat → Nat) (mw msd mn mon mhn mrd mtn mad mpn : Int32) (se wo jf ow oj kf ff vf cf tf pb : Nat → Int32) (fat whl nw : Int32) (nwd njn : Nat → Int32) (rd : Int32) (so vl : Nat → Int64) (jg : Nat → Int32) (tko : Nat → Int32) (sdn hh_ : Int64) (ik kw kh kr kt : Int32) (kc ko : Nat → Int32) (p0 p1 : Int32) (n b : Nat) (o : Nat → Bool) (hn : p0 = nI n) (hn1 : 1 ≤ n) (hn4 : n ≤ 4) (hb : p1 = nI b) (hb5 : b < 5) (ho : ∀ k, k < n - 1 → jg k = bi (o k)) : Ctr l yX6_bracketed cX6_bracketed 9 (some .long) 2 56 E (wM E a) [.ref (a 0), .int p0, .int p1] (((mw, msd, mn, mon, mhn, mrd, mtn, mad, mpn), (se, wo, jf, ow, oj, kf, ff, vf, cf, tf, pb), (fat, whl, nw, nwd, njn), (rd, so, vl, jg), tko, (sdn, hh_), (ik, kw, kh, kr, kt, kc, ko))) (fun v8 s8 => v8 = some (.long (brk n b o vl)) ∧ s8 = ((mw, msd, mn, mon, mhn, mrd, mtn, mad, mpn), (se, wo, jf, ow, oj, kf, ff, vf, cf, tf, pb), (fat, whl, nw, nwd, njn), (rd, so, vl, jg), tko, (sdn, hh_), (ik, kw, kh, kr, kt, kc, ko))) := by
  refine Ctr.of' (by decide +kernel) (Nat.le_of_ble_eq_true rfl) (fun X P0 hP0 O => ?_)
  refine g_sub [0, 1, 2] (lv' := [(0, .ref (a 0)), (1, .int p0), (2, .int p1)]) rfl ?_
  refine g_aload_n 0 O dX6_bracketed_0 rfl 0 rfl ?_
  refine g_get 1 O (v := .ref (a 15)) inX6 0 rfl rfl 27 (by decide) kf_X6_54 rfl dX6_bracketed_1 ?_
  refine g_iconst 4 O (v := 0) dX6_bracketed_4 (by decide) ?_
  refine g_lald 5 O 15 0 rfl (rfl) (by decide) (by decide) dX6_bracketed_5 ?_
  refine g_lstore_n 6 O (lv' := [(3, .long (vl 0)), (0, .ref (a 0)), (1, .int p0), (2, .int p1)]) dX6_bracketed_6 rfl (by decide) rfl ?_
  refine g_aload_n 7 O dX6_bracketed_7 rfl 1 rfl ?_
  refine g_get 8 O (v := .ref (a 15)) inX6 0 rfl rfl 27 (by decide) kf_X6_54 rfl dX6_bracketed_8 ?_
  refine g_iconst 11 O (v := 1) dX6_bracketed_11 (by decide) ?_
  refine g_lald 12 O 15 1 rfl (rfl) (by decide) (by decide) dX6_bracketed_12 ?_
  refine g_lstore 13 O (lv' := [(5, .long (vl 1)), (3, .long (vl 0)), (0, .ref (a 0)), (1, .int p0), (2, .int p1)]) dX6_bracketed_13 (by decide) rfl ?_
  refine g_aload_n 15 O dX6_bracketed_15 rfl 2 rfl ?_
  refine g_get 16 O (v := .ref (a 15)) inX6 0 rfl rfl 27 (by decide) kf_X6_54 rfl dX6_bracketed_16 ?_
  refine g_iconst 19 O (v := 2) dX6_bracketed_19 (by decide) ?_
  refine g_lald 20 O 15 2 rfl (rfl) (by decide) (by decide) dX6_bracketed_20 ?_
  refine g_lstore 21 O (lv' := [(7, .long (vl 2)), (5, .long (vl 1)), (3, .long (vl 0)), (0, .ref (a 0)), (1, .int p0), (2, .int p1)]) dX6_bracketed_21 (by decide) rfl ?_
  refine g_iload_n 23 O dX6_bracketed_23 rfl 4 rfl ?_
  refine g_iconst 24 O (v := 1) dX6_bracketed_24 (by decide) ?_
  refine g_icmp_ne 25 O 30 dX6_bracketed_25 (by decide) (fun h25 => ?_) (fun h25 => ?_)
  · -- taken
    have hn2 : ¬ n = 1 := fun e => h25 (by rw [hn, e]; rfl)
    refine g_iload_n 30 O dX6_bracketed_30 rfl 4 rfl ?_
    refine g_iconst 31 O (v := 2) dX6_bracketed_31 (by decide) ?_
    refine g_icmp_ne 32 O 48 dX6_bracketed_32 (by decide) (fun h32 => ?_) (fun h32 => ?_)
    · -- taken
      have hn3 : ¬ n = 2 := fun e => h32 (by rw [hn, e]; rfl)
      refine g_iload_n 48 O dX6_bracketed_48 rfl 4 rfl ?_
      refine g_iconst 49 O (v := 3) dX6_bracketed_49 (by decide) ?_
      refine g_icmp_ne 50 O 107 dX6_bracketed_50 (by decide) (fun h50 => ?_) (fun h50 => ?_)
      · -- taken
        have hn4 : n = 4 := by have : ¬ n = 3 := fun e => h50 (by rw [hn, e]; rfl); omega
        subst hn4
        refine g_aload_n 107 O dX6_bracketed_107 rfl 3 rfl ?_
        refine g_iload_n 108 O dX6_bracketed_108 rfl 5 rfl ?_
        refine g_lload_n 109 O dX6_bracketed_109 rfl 2 rfl ?_
        refine g_lload 110 O dX6_bracketed_110 1 rfl ?_
        refine g_lload 112 O dX6_bracketed_112 0 rfl ?_
        refine g_aload_n 114 O dX6_bracketed_114 rfl 3 rfl ?_
        refine g_get 115 O (v := .ref (a 15)) inX6 0 rfl rfl 27 (by decide) kf_X6_54 rfl dX6_bracketed_115 ?_
        refine g_iconst 118 O (v := 3) dX6_bracketed_118 (by decide) ?_
        refine g_lald 119 O 15 3 rfl (rfl) (by decide) (by decide) dX6_bracketed_119 ?_
        refine g_callV 120 O (na := 5) (av := [.int p1, .long (vl 0), .long (vl 1), .long (vl 2), .long (vl 3)]) (c_X6_ofFour l E a mw msd mn mon mhn mrd mtn mad mpn se wo jf ow oj kf ff vf cf tf pb fat whl nw nwd njn rd so vl jg tko sdn hh_ ik kw kh kr kt kc ko p1 b o hb hb5 (fun k hk => ho k (by omega))) kl_X6_144 km_X6_ofFour kv_X6_ofFour ki_X6 kc_X6_ofFour (by decide +kernel) rfl (Nat.le_of_ble_eq_true rfl) (Nat.le_of_ble_eq_true rfl) (fun _ h => h) 0 rfl rfl (fun s => s) (fun _ _ _ _ h => h) rfl (Nat.le_of_ble_eq_true rfl) dX6_bracketed_120 (fun v9 s9 hv9 => ?_)
        obtain ⟨rfl, rfl⟩ := hv9
        exact g_lret 123 O dX6_bracketed_123 (by rw [hP0]; exact ⟨rfl, rfl⟩)
      · -- not taken
        have e : n = 3 := (nI_eq (b := 3) (by omega) (by decide)).mp (hn ▸ h50)
        subst e
        refine g_iload_n 53 O dX6_bracketed_53 rfl 5 rfl ?_
        refine g_if_ne 54 O 83 dX6_bracketed_54 (by decide) (fun h54 => ?_) (fun h54 => ?_)
        · -- taken
          have eb : ¬ b = 0 := fun e => h54 (by rw [hb, e]; rfl)
          refine g_lload_n 83 O dX6_bracketed_83 rfl 2 rfl ?_
          refine g_aload_n 84 O dX6_bracketed_84 rfl 3 rfl ?_
          refine g_get 85 O (v := .ref (a 16)) inX6 0 rfl rfl 28 (by decide) kf_X6_57 rfl dX6_bracketed_85 ?_
          refine g_iconst 88 O (v := 0) dX6_bracketed_88 (by decide) ?_
          refine g_iald 89 O 16 0 rfl (rfl) (by decide) (by decide) dX6_bracketed_89 ?_
          refine g_lload 90 O dX6_bracketed_90 1 rfl ?_
          refine g_aload_n 92 O dX6_bracketed_92 rfl 3 rfl ?_
          refine g_get 93 O (v := .ref (a 16)) inX6 0 rfl rfl 28 (by decide) kf_X6_57 rfl dX6_bracketed_93 ?_
          refine g_iconst 96 O (v := 1) dX6_bracketed_96 (by decide) ?_
          refine g_iald 97 O 16 1 rfl (rfl) (by decide) (by decide) dX6_bracketed_97 ?_
          refine g_lload 98 O dX6_bracketed_98 0 rfl ?_
          refine g_callS 100 O (na := 3) (av := [.long (vl 1), .int (jg 1), .long (vl 2)]) (c_X6_joined l E _ _ (vl 1) (jg 1) (vl 2) (o 1) (ho 1 (by omega))) kl_X6_140 ks_X6_joined ki_X6 kc_X6_joined (by decide +kernel) rfl (Nat.le_of_ble_eq_true rfl) (Nat.le_of_ble_eq_true rfl) (fun _ h => h) (fun s => s) (fun _ _ _ _ h => h) rfl (Nat.le_of_ble_eq_true rfl) dX6_bracketed_100 (fun v9 s9 hv9 => ?_)
          obtain ⟨rfl, rfl⟩ := hv9
          refine g_callS 103 O (na := 3) (av := [.long (vl 0), .int (jg 0), .long (jn ((o 1)) (vl 1) (vl 2))]) (c_X6_joined l E _ _ (vl 0) (jg 0) (jn ((o 1)) (vl 1) (vl 2)) (o 0) (ho 0 (by omega))) kl_X6_140 ks_X6_joined ki_X6 kc_X6_joined (by decide +kernel) rfl (Nat.le_of_ble_eq_true rfl) (Nat.le_of_ble_eq_true rfl) (fun _ h => h) (fun s => s) (fun _ _ _ _ h => h) rfl (Nat.le_of_ble_eq_true rfl) dX6_bracketed_103 (fun v9 s9 hv9 => ?_)
          obtain ⟨rfl, rfl⟩ := hv9
          exact g_lret 106 O dX6_bracketed_106 (by rw [hP0, show brk 3 b o vl = br3 b o vl from rfl, br3, if_neg eb]; exact ⟨rfl, rfl⟩)
        · -- not taken
          have eb : b = 0 := (nI_eq (b := 0) (by omega) (by decide)).mp (hb ▸ h54)
          refine g_lload_n 57 O dX6_bracketed_57 rfl 2 rfl ?_
          refine g_aload_n 58 O dX6_bracketed_58 rfl 3 rfl ?_
          refine g_get 59 O (v := .ref (a 16)) inX6 0 rfl rfl 28 (by decide) kf_X6_57 rfl dX6_bracketed_59 ?_
          refine g_iconst 62 O (v := 0) dX6_bracketed_62 (by decide) ?_
          refine g_iald 63 O 16 0 rfl (rfl) (by decide) (by decide) dX6_bracketed_63 ?_
          refine g_lload 64 O dX6_bracketed_64 1 rfl ?_
          refine g_callS 66 O (na := 3) (av := [.long (vl 0), .int (jg 0), .long (vl 1)]) (c_X6_joined l E _ _ (vl 0) (jg 0) (vl 1) (o 0) (ho 0 (by omega))) kl_X6_140 ks_X6_joined ki_X6 kc_X6_joined (by decide +kernel) rfl (Nat.le_of_ble_eq_true rfl) (Nat.le_of_ble_eq_true rfl) (fun _ h => h) (fun s => s) (fun _ _ _ _ h => h) rfl (Nat.le_of_ble_eq_true rfl) dX6_bracketed_66 (fun v9 s9 hv9 => ?_)
          obtain ⟨rfl, rfl⟩ := hv9
          refine g_aload_n 69 O dX6_bracketed_69 rfl 3 rfl ?_
          refine g_get 70 O (v := .ref (a 16)) inX6 0 rfl rfl 28 (by decide) kf_X6_57 rfl dX6_bracketed_70 ?_
          refine g_iconst 73 O (v := 1) dX6_bracketed_73 (by decide) ?_
          refine g_iald 74 O 16 1 rfl (rfl) (by decide) (by decide) dX6_bracketed_74 ?_
          refine g_lload 75 O dX6_bracketed_75 0 rfl ?_
          refine g_callS 77 O (na := 3) (av := [.long (jn ((o 0)) (vl 0) (vl 1)), .int (jg 1), .long (vl 2)]) (c_X6_joined l E _ _ (jn ((o 0)) (vl 0) (vl 1)) (jg 1) (vl 2) (o 1) (ho 1 (by omega))) kl_X6_140 ks_X6_joined ki_X6 kc_X6_joined (by decide +kernel) rfl (Nat.le_of_ble_eq_true rfl) (Nat.le_of_ble_eq_true rfl) (fun _ h => h) (fun s => s) (fun _ _ _ _ h => h) rfl (Nat.le_of_ble_eq_true rfl) dX6_bracketed_77 (fun v9 s9 hv9 => ?_)
          obtain ⟨rfl, rfl⟩ := hv9
          refine g_goto 80 O 106 dX6_bracketed_80 (by decide) ?_
          exact g_lret 106 O dX6_bracketed_106 (by rw [hP0, show brk 3 b o vl = br3 b o vl from rfl, br3, if_pos eb]; exact ⟨rfl, rfl⟩)
    · -- not taken
      have e : n = 2 := (nI_eq (b := 2) (by omega) (by decide)).mp (hn ▸ h32)
      subst e
      refine g_lload_n 35 O dX6_bracketed_35 rfl 2 rfl ?_
      refine g_aload_n 36 O dX6_bracketed_36 rfl 3 rfl ?_
      refine g_get 37 O (v := .ref (a 16)) inX6 0 rfl rfl 28 (by decide) kf_X6_57 rfl dX6_bracketed_37 ?_
      refine g_iconst 40 O (v := 0) dX6_bracketed_40 (by decide) ?_
      refine g_iald 41 O 16 0 rfl (rfl) (by decide) (by decide) dX6_bracketed_41 ?_
      refine g_lload 42 O dX6_bracketed_42 1 rfl ?_
      refine g_callS 44 O (na := 3) (av := [.long (vl 0), .int (jg 0), .long (vl 1)]) (c_X6_joined l E _ _ (vl 0) (jg 0) (vl 1) (o 0) (ho 0 (by omega))) kl_X6_140 ks_X6_joined ki_X6 kc_X6_joined (by decide +kernel) rfl (Nat.le_of_ble_eq_true rfl) (Nat.le_of_ble_eq_true rfl) (fun _ h => h) (fun s => s) (fun _ _ _ _ h => h) rfl (Nat.le_of_ble_eq_true rfl) dX6_bracketed_44 (fun v9 s9 hv9 => ?_)
      obtain ⟨rfl, rfl⟩ := hv9
      exact g_lret 47 O dX6_bracketed_47 (by rw [hP0]; exact ⟨rfl, rfl⟩)
  · -- not taken
    have e : n = 1 := (nI_eq (b := 1) (by omega) (by decide)).mp (hn ▸ h25)
    subst e
    refine g_lload_n 28 O dX6_bracketed_28 rfl 2 rfl ?_
    exact g_lret 29 O dX6_bracketed_29 (by rw [hP0]; exact ⟨rfl, rfl⟩)

theorem TR_r {z : Nat → Nat} {y : Sy} {r : Nat} : TR z y r = brk y.1 (r / 2 ^ y.1 / 2 ^ npl y.2.2.2 y.1) (jo y.2.2.2 (r / 2 ^ y.1 % 2 ^ npl y.2.2.2 y.1)) (wv z y.2.1 y.2.2.1 (r % 2 ^ y.1)) := rfl
theorem br_lt {y : Sy} {r : Nat} (h4 : y.1 ≤ 4) (hr : r < NR y) : 1 ≤ y.1 ∧ r / 2 ^ y.1 / 2 ^ npl y.2.2.2 y.1 < 5 := by
  have h0 : ¬ y.1 = 0 := by intro e; rw [NR, if_pos e] at hr; omega
  refine ⟨by omega, ?_⟩
  rw [NR, if_neg h0] at hr
  refine Nat.lt_of_lt_of_le (Nat.div_lt_of_lt_mul (Nat.div_lt_of_lt_mul ?_)) (nbr_le h4)
  rw [Nat.mul_comm (2 ^ npl y.2.2.2 y.1), Nat.mul_comm (2 ^ y.1)]
  exact hr
theorem p2_16 : ∀ n, n ≤ 4 → 2 ^ n ≤ 16 := by decide
theorem wv_in {z lt : Nat → Nat} {ng : Nat → Bool} {s k : Nat} {b : Bool} (hs : s.testBit k = b) {x : Int64} (hx : x = Wf (if b = true then z (lt k) else lt k)) : wv z lt ng s k = x ^^^ (if ng k = true then -1 else 0) := by
  rw [wv, hs, hx]
  cases b with
  | true => rfl
  | false => rfl

theorem p2_ne {n : Nat} (h : n ≤ 4) : nI (2 ^ n) ≠ 0 := by
  have : ∀ n, n ≤ 4 → nI (2 ^ n) ≠ 0 := by decide +kernel
  exact this n h

set_option maxRecDepth 100000 in
set_option maxHeartbeats 4000000 in
theorem c_X6_lay (l : Launch) (E : Ev) (a : Nat → Nat) (mw msd mn mon mhn mrd mtn mad mpn : Int32) (se wo jf ow oj kf ff vf cf tf pb : Nat → Int32) (fat whl nw : Int32) (nwd njn : Nat → Int32) (rd : Int32) (so vl : Nat → Int64) (jg : Nat → Int32) (tko : Nat → Int32) (sdn hh_ : Int64) (ik kw kh kr kt : Int32) (kc ko : Nat → Int32) (p0 p1 : Int32) (y : Sy) (z : Nat → Nat) (n : Nat) (hp0 : p0 = nI n) (hn : n = y.1) (hy : YM (fun k => if p1 = 0 then wo k else ow k) (fun k => if p1 = 0 then jf k else oj k) y) (hz : SnW se z) : Ctr l yX6_lay cX6_lay 12 none 3 84 E (wM E a) [.ref (a 0), .int p0, .int p1] (((mw, msd, mn, mon, mhn, mrd, mtn, mad, mpn), (se, wo, jf, ow, oj, kf, ff, vf, cf, tf, pb), (fat, whl, nw, nwd, njn), (rd, so, vl, jg), tko, (sdn, hh_), (ik, kw, kh, kr, kt, kc, ko))) (pV (fun x => ∃ (so' vl' : Nat → Int64) (jg' : Nat → Int32), x = ((mw, msd, mn, mon, mhn, mrd, mtn, mad, mpn), (se, wo, jf, ow, oj, kf, ff, vf, cf, tf, pb), (fat, whl, nw, nwd, njn), (nI (NR y), so', vl', jg'), tko, (sdn, hh_), (ik, kw, kh, kr, kt, kc, ko)) ∧ ∀ r, r < NR y → so' r = TR z y r)) := by
  refine Ctr.of' (by decide +kernel) (Nat.le_of_ble_eq_true rfl) (fun X P0 hP0 O => ?_)
  refine g_sub [0, 1, 2] (lv' := [(0, .ref (a 0)), (1, .int p0), (2, .int p1)]) rfl ?_
  have hy4 := hy.1
  have hN := NR_le hy4
  rw [show (p0 : Int32) = nI n from hp0]
  refine g_iconst 0 O (v := 1) dX6_lay_0 (by decide) ?_
  refine g_iload_n 1 O dX6_lay_1 rfl 1 rfl ?_
  refine g_ishl 2 O dX6_lay_2 ?_
  refine g_si (nI (2 ^ n)) (p2_ok n (by omega)) ?_
  refine g_istore_n 3 O (lv' := [(3, .int (nI (2 ^ n))), (0, .ref (a 0)), (1, .int (nI n)), (2, .int p1)]) dX6_lay_3 rfl (by decide) rfl ?_
  refine g_iconst 4 O (v := 1) dX6_lay_4 (by decide) ?_
  refine g_aload_n 5 O dX6_lay_5 rfl 1 rfl ?_
  refine g_iload_n 6 O dX6_lay_6 rfl 2 rfl ?_
  refine g_iload_n 7 O dX6_lay_7 rfl 3 rfl ?_
  refine g_callV 8 O (na := 2) (av := [.int (nI n), .int p1]) (c_X6_bothMany l E a mw msd mn mon mhn mrd mtn mad mpn se wo jf ow oj kf ff vf cf tf pb fat whl nw nwd njn rd so vl jg tko sdn hh_ ik kw kh kr kt kc ko p1 y n hn hy) kl_X6_120 km_X6_bothMany kv_X6_bothMany ki_X6 kc_X6_bothMany (by decide +kernel) rfl (Nat.le_of_ble_eq_true rfl) (Nat.le_of_ble_eq_true rfl) (fun _ h => h) 0 rfl rfl (fun s => s) (fun _ _ _ _ h => h) rfl (Nat.le_of_ble_eq_true rfl) dX6_lay_8 (fun v9 s9 hv9 => ?_)
  obtain ⟨rfl, rfl⟩ := hv9
  refine g_ishl 11 O dX6_lay_11 ?_
  have hq4 : npl y.2.2.2 n ≤ n - 1 := npl_le _ _
  refine g_si (nI (2 ^ npl y.2.2.2 n)) (p2_ok _ (by omega)) ?_
  refine g_istore 12 O (lv' := [(4, .int (nI (2 ^ npl y.2.2.2 n))), (3, .int (nI (2 ^ n))), (0, .ref (a 0)), (1, .int (nI n)), (2, .int p1)]) dX6_lay_12 (by decide) rfl ?_
  refine g_aload_n 14 O dX6_lay_14 rfl 2 rfl ?_
  refine g_iload_n 15 O dX6_lay_15 rfl 3 rfl ?_
  refine g_if_ne 16 O 23 dX6_lay_16 (by decide) (fun h16 => ?_) (fun h16 => ?_)
  · -- taken
    have hn0 : ¬ n = 0 := fun e => h16 (by rw [e]; rfl)
    refine g_iload_n 23 O dX6_lay_23 rfl 3 rfl ?_
    refine g_callS 24 O (na := 1) (av := [.int (nI n)]) (c_X6_brackets l E _ _ (nI n) n rfl (by omega)) kl_X6_123 ks_X6_brackets ki_X6 kc_X6_brackets (by decide +kernel) rfl (Nat.le_of_ble_eq_true rfl) (Nat.le_of_ble_eq_true rfl) (fun _ h => h) (fun s => s) (fun _ _ _ _ h => h) rfl (Nat.le_of_ble_eq_true rfl) dX6_lay_24 (fun v9 s9 hv9 => ?_)
    obtain ⟨rfl, rfl⟩ := hv9
    refine g_iload 27 O dX6_lay_27 0 rfl ?_
    refine g_imul 29 O dX6_lay_29 ?_
    refine g_iload_n 30 O dX6_lay_30 rfl 1 rfl ?_
    refine g_imul 31 O dX6_lay_31 ?_
    refine g_si (nI (NR y)) (by rw [NR, ← hn, if_neg hn0, pk_mul, pk_mul]) ?_
    refine g_put 32 O inX6 tyX6_ok nmX6 (((mw, msd, mn, mon, mhn, mrd, mtn, mad, mpn), (se, wo, jf, ow, oj, kf, ff, vf, cf, tf, pb), (fat, whl, nw, nwd, njn), (nI (NR y), so, vl, jg), tko, (sdn, hh_), (ik, kw, kh, kr, kt, kc, ko))) 0 rfl rfl 25 (by decide) kf_X6_110 rfl (rfl) (rfl) (Nat.le_of_ble_eq_true rfl) rfl dX6_lay_32 ?_
    refine g_iconst 35 O (v := 0) dX6_lay_35 (by decide) ?_
    refine g_istore 36 O (lv' := [(5, .int 0), (4, .int (nI (2 ^ npl y.2.2.2 n))), (3, .int (nI (2 ^ n))), (0, .ref (a 0)), (1, .int (nI n)), (2, .int p1)]) dX6_lay_36 (by decide) rfl ?_
    refine g_sub [0, 1, 2, 3, 4, 5] (lv' := [(5, .int 0), (4, .int (nI (2 ^ npl y.2.2.2 n))), (3, .int (nI (2 ^ n))), (0, .ref (a 0)), (1, .int (nI n)), (2, .int p1)]) rfl ?_
    have L38 : ∀ (fuel : Nat) (r : Nat) (so' vl' : Nat → Int64) (jg' : Nat → Int32) (hr : r ≤ NR y) (hso : ∀ i, i < r → so' i = TR z y i), NR y - r < fuel → G l E (wM E a) P0 X 12 (((mw, msd, mn, mon, mhn, mrd, mtn, mad, mpn), (se, wo, jf, ow, oj, kf, ff, vf, cf, tf, pb), (fat, whl, nw, nwd, njn), (nI (NR y), so', vl', jg'), tko, (sdn, hh_), (ik, kw, kh, kr, kt, kc, ko))) 38 [(5, .int (nI r)), (4, .int (nI (2 ^ npl y.2.2.2 n))), (3, .int (nI (2 ^ n))), (0, .ref (a 0)), (1, .int (nI n)), (2, .int p1)] [] := by
      intro fuel
      induction fuel with
      | zero => intro r so' vl' jg' hr hso hfu; exact absurd hfu (Nat.not_lt_zero _)
      | succ fuel ih38 =>
        intro r so' vl' jg' hr hso hfu
        refine g_iload 38 O dX6_lay_38 0 rfl ?_
        refine g_aload_n 40 O dX6_lay_40 rfl 3 rfl ?_
        refine g_get 41 O (v := .int (nI (NR y))) inX6 0 rfl rfl 25 (by decide) kf_X6_110 rfl dX6_lay_41 ?_
        refine g_icmp_ge 44 O 242 dX6_lay_44 (by decide) (fun h44 => ?_) (fun h44 => ?_)
        · -- taken
          have e : r = NR y := by have := ge_of_le (by omega) (by omega) h44; omega
          subst e
          exact g_vret 242 O dX6_lay_242 (by rw [hP0]; exact ⟨rfl, so', vl', jg', rfl, hso⟩)
        · -- not taken
          have hlr : r < NR y := lt_of_nge (by omega) h44
          have hb5 := br_lt hy4 hlr
          rw [← hn] at hb5
          have hdv := dv_ok n (by omega) r (by omega)
          have hS16 := p2_16 n (by omega)
          have hsec : r % 2 ^ n < 2 ^ n := Nat.mod_lt _ (Nat.two_pow_pos _)
          have hP16 := p2_16 (npl y.2.2.2 n) (by omega)
          have hrd : r / 2 ^ n ≤ r := Nat.div_le_self _ _
          have hway : r / 2 ^ n % 2 ^ npl y.2.2.2 n < 2 ^ npl y.2.2.2 n := Nat.mod_lt _ (Nat.two_pow_pos _)
          have hdw := dv_ok (npl y.2.2.2 n) (by omega) (r / 2 ^ n) (by omega)
          refine g_iload 47 O dX6_lay_47 0 rfl ?_
          refine g_iload_n 49 O dX6_lay_49 rfl 2 rfl ?_
          refine g_irem 50 O dX6_lay_50 (p2_ne (by omega)) ?_
          refine g_si (nI (r % 2 ^ n)) (by rw [hdv.1]; exact hdv.2) ?_
          refine g_istore 51 O (lv' := [(6, .int (nI (r % 2 ^ n))), (5, .int (nI r)), (4, .int (nI (2 ^ npl y.2.2.2 n))), (3, .int (nI (2 ^ n))), (0, .ref (a 0)), (1, .int (nI n)), (2, .int p1)]) dX6_lay_51 (by decide) rfl ?_
          refine g_iload 53 O dX6_lay_53 1 rfl ?_
          refine g_iload_n 55 O dX6_lay_55 rfl 3 rfl ?_
          refine g_idiv 56 O dX6_lay_56 (p2_ne (by omega)) ?_
          refine g_si (nI (r / 2 ^ n)) (hdv.1) ?_
          refine g_iload 57 O dX6_lay_57 2 rfl ?_
          refine g_irem 59 O dX6_lay_59 (p2_ne (by omega)) ?_
          refine g_si (nI (r / 2 ^ n % 2 ^ npl y.2.2.2 n)) (by rw [hdw.1]; exact hdw.2) ?_
          refine g_istore 60 O (lv' := [(7, .int (nI (r / 2 ^ n % 2 ^ npl y.2.2.2 n))), (6, .int (nI (r % 2 ^ n))), (5, .int (nI r)), (4, .int (nI (2 ^ npl y.2.2.2 n))), (3, .int (nI (2 ^ n))), (0, .ref (a 0)), (1, .int (nI n)), (2, .int p1)]) dX6_lay_60 (by decide) rfl ?_
          refine g_iconst 62 O (v := 0) dX6_lay_62 (by decide) ?_
          refine g_istore 63 O (lv' := [(8, .int 0), (7, .int (nI (r / 2 ^ n % 2 ^ npl y.2.2.2 n))), (6, .int (nI (r % 2 ^ n))), (5, .int (nI r)), (4, .int (nI (2 ^ npl y.2.2.2 n))), (3, .int (nI (2 ^ n))), (0, .ref (a 0)), (1, .int (nI n)), (2, .int p1)]) dX6_lay_63 (by decide) rfl ?_
          refine g_sub [0, 1, 2, 3, 4, 5, 6, 7, 8] (lv' := [(8, .int 0), (7, .int (nI (r / 2 ^ n % 2 ^ npl y.2.2.2 n))), (6, .int (nI (r % 2 ^ n))), (5, .int (nI r)), (4, .int (nI (2 ^ npl y.2.2.2 n))), (3, .int (nI (2 ^ n))), (0, .ref (a 0)), (1, .int (nI n)), (2, .int p1)]) rfl ?_
          have L65 : ∀ (fuel : Nat) (k : Nat) (vl2 : Nat → Int64) (hk : k ≤ n) (hv : ∀ i, i < k → vl2 i = wv z y.2.1 y.2.2.1 (r % 2 ^ n) i), n - k < fuel → G l E (wM E a) P0 X 12 (((mw, msd, mn, mon, mhn, mrd, mtn, mad, mpn), (se, wo, jf, ow, oj, kf, ff, vf, cf, tf, pb), (fat, whl, nw, nwd, njn), (nI (NR y), so', vl2, jg'), tko, (sdn, hh_), (ik, kw, kh, kr, kt, kc, ko))) 65 [(8, .int (nI k)), (7, .int (nI (r / 2 ^ n % 2 ^ npl y.2.2.2 n))), (6, .int (nI (r % 2 ^ n))), (5, .int (nI r)), (4, .int (nI (2 ^ npl y.2.2.2 n))), (3, .int (nI (2 ^ n))), (0, .ref (a 0)), (1, .int (nI n)), (2, .int p1)] [] := by
            intro fuel
            induction fuel with
            | zero => intro k vl2 hk hv hfu; exact absurd hfu (Nat.not_lt_zero _)
            | succ fuel ih65 =>
              intro k vl2 hk hv hfu
              refine g_iload 65 O dX6_lay_65 0 rfl ?_
              refine g_iload_n 67 O dX6_lay_67 rfl 7 rfl ?_
              refine g_icmp_ge 68 O 147 dX6_lay_68 (by decide) (fun h68 => ?_) (fun h68 => ?_)
              · -- taken
                have e : k = n := by have := ge_of_le (by omega) (by omega) h68; omega
                rw [e] at hv
                refine g_iconst 147 O (v := 0) dX6_lay_147 (by decide) ?_
                refine g_istore 148 O (lv' := [(8, .int 0), (7, .int (nI (r / 2 ^ n % 2 ^ npl y.2.2.2 n))), (6, .int (nI (r % 2 ^ n))), (5, .int (nI r)), (4, .int (nI (2 ^ npl y.2.2.2 n))), (3, .int (nI (2 ^ n))), (0, .ref (a 0)), (1, .int (nI n)), (2, .int p1)]) dX6_lay_148 (by decide) rfl ?_
                refine g_iconst 150 O (v := 0) dX6_lay_150 (by decide) ?_
                refine g_istore 151 O (lv' := [(9, .int 0), (8, .int 0), (7, .int (nI (r / 2 ^ n % 2 ^ npl y.2.2.2 n))), (6, .int (nI (r % 2 ^ n))), (5, .int (nI r)), (4, .int (nI (2 ^ npl y.2.2.2 n))), (3, .int (nI (2 ^ n))), (0, .ref (a 0)), (1, .int (nI n)), (2, .int p1)]) dX6_lay_151 (by decide) rfl ?_
                refine g_sub [0, 1, 2, 3, 4, 5, 6, 7, 8, 9] (lv' := [(9, .int 0), (8, .int 0), (7, .int (nI (r / 2 ^ n % 2 ^ npl y.2.2.2 n))), (6, .int (nI (r % 2 ^ n))), (5, .int (nI r)), (4, .int (nI (2 ^ npl y.2.2.2 n))), (3, .int (nI (2 ^ n))), (0, .ref (a 0)), (1, .int (nI n)), (2, .int p1)]) rfl ?_
                have L153 : ∀ (fuel : Nat) (k : Nat) (jg2 : Nat → Int32) (hk : k ≤ n - 1) (hj : ∀ i, i < k → jg2 i = bi (jo y.2.2.2 (r / 2 ^ n % 2 ^ npl y.2.2.2 n) i)), n - k < fuel → G l E (wM E a) P0 X 12 (((mw, msd, mn, mon, mhn, mrd, mtn, mad, mpn), (se, wo, jf, ow, oj, kf, ff, vf, cf, tf, pb), (fat, whl, nw, nwd, njn), (nI (NR y), so', vl2, jg2), tko, (sdn, hh_), (ik, kw, kh, kr, kt, kc, ko))) 153 [(9, .int (nI k)), (8, .int (nI (cn (fun j => y.2.2.2 (j + 1)) k))), (7, .int (nI (r / 2 ^ n % 2 ^ npl y.2.2.2 n))), (6, .int (nI (r % 2 ^ n))), (5, .int (nI r)), (4, .int (nI (2 ^ npl y.2.2.2 n))), (3, .int (nI (2 ^ n))), (0, .ref (a 0)), (1, .int (nI n)), (2, .int p1)] [] := by
                  intro fuel
                  induction fuel with
                  | zero => intro k jg2 hk hj hfu; exact absurd hfu (Nat.not_lt_zero _)
                  | succ fuel ih153 =>
                    intro k jg2 hk hj hfu
                    refine g_iload 153 O dX6_lay_153 0 rfl ?_
                    refine g_iload_n 155 O dX6_lay_155 rfl 8 rfl ?_
                    refine g_iconst 156 O (v := 1) dX6_lay_156 (by decide) ?_
                    refine g_isub 157 O dX6_lay_157 ?_
                    refine g_icmp_ge 158 O 217 dX6_lay_158 (by decide) (fun h158 => ?_) (fun h158 => ?_)
                    · -- taken
                      have e : k = n - 1 := by have := (m1_ok n (by omega) k (by omega)).mp h158; omega
                      rw [e] at hj
                      refine g_aload_n 217 O dX6_lay_217 rfl 7 rfl ?_
                      refine g_get 218 O (v := .ref (a 14)) inX6 0 rfl rfl 26 (by decide) kf_X6_50 rfl dX6_lay_218 ?_
                      refine g_iload 221 O dX6_lay_221 4 rfl ?_
                      refine g_aload_n 223 O dX6_lay_223 rfl 7 rfl ?_
                      refine g_iload_n 224 O dX6_lay_224 rfl 8 rfl ?_
                      refine g_iload 225 O dX6_lay_225 4 rfl ?_
                      refine g_iload_n 227 O dX6_lay_227 rfl 6 rfl ?_
                      refine g_idiv 228 O dX6_lay_228 (p2_ne (by omega)) ?_
                      refine g_si (nI (r / 2 ^ n)) (hdv.1) ?_
                      refine g_iload 229 O dX6_lay_229 5 rfl ?_
                      refine g_idiv 231 O dX6_lay_231 (p2_ne (by omega)) ?_
                      refine g_si (nI (r / 2 ^ n / 2 ^ npl y.2.2.2 n)) (hdw.1) ?_
                      refine g_callV 232 O (na := 2) (av := [.int (nI n), .int (nI (r / 2 ^ n / 2 ^ npl y.2.2.2 n))]) (c_X6_bracketed l E a mw msd mn mon mhn mrd mtn mad mpn se wo jf ow oj kf ff vf cf tf pb fat whl nw nwd njn (nI (NR y)) so' vl2 jg2 tko sdn hh_ ik kw kh kr kt kc ko (nI n) (nI (r / 2 ^ n / 2 ^ npl y.2.2.2 n)) n (r / 2 ^ n / 2 ^ npl y.2.2.2 n) (jo y.2.2.2 (r / 2 ^ n % 2 ^ npl y.2.2.2 n)) rfl hb5.1 (by omega) rfl hb5.2 hj) kl_X6_136 km_X6_bracketed kv_X6_bracketed ki_X6 kc_X6_bracketed (by decide +kernel) rfl (Nat.le_of_ble_eq_true rfl) (Nat.le_of_ble_eq_true rfl) (fun _ h => h) 0 rfl rfl (fun s => s) (fun _ _ _ _ h => h) rfl (Nat.le_of_ble_eq_true rfl) dX6_lay_232 (fun v9 s9 hv9 => ?_)
                      obtain ⟨rfl, rfl⟩ := hv9
                      refine g_sl (TR z y r) (by rw [TR_r, ← hn]; exact brk_cong hb5.1 (by omega) (fun _ _ => rfl) hv) ?_
                      refine g_last 235 O (((mw, msd, mn, mon, mhn, mrd, mtn, mad, mpn), (se, wo, jf, ow, oj, kf, ff, vf, cf, tf, pb), (fat, whl, nw, nwd, njn), (nI (NR y), vp_updL so' r (TR z y r), vl2, jg2), tko, (sdn, hh_), (ik, kw, kh, kr, kt, kc, ko))) 14 r rfl (rfl) (by omega) (by decide) rfl dX6_lay_235 ?_
                      refine g_iinc 236 O (v := nI (r + 1)) (q := 4) (lv' := [(5, .int (nI (r + 1))), (9, .int (nI k)), (8, .int (nI (cn (fun j => y.2.2.2 (j + 1)) k))), (7, .int (nI (r / 2 ^ n % 2 ^ npl y.2.2.2 n))), (6, .int (nI (r % 2 ^ n))), (4, .int (nI (2 ^ npl y.2.2.2 n))), (3, .int (nI (2 ^ n))), (0, .ref (a 0)), (1, .int (nI n)), (2, .int p1)]) dX6_lay_236 rfl (nI_1 r) (by decide) rfl ?_
                      refine g_goto 239 O 38 dX6_lay_239 (by decide) ?_
                      refine g_sub [0, 5, 6, 7, 8, 9] (lv' := [(5, .int (nI (r + 1))), (4, .int (nI (2 ^ npl y.2.2.2 n))), (3, .int (nI (2 ^ n))), (0, .ref (a 0)), (1, .int (nI n)), (2, .int p1)]) rfl ?_
                      exact ih38 (r + 1) (vp_updL so' r (TR z y r)) vl2 jg2 (by omega) (updL_ext hso rfl) (by omega)
                    · -- not taken
                      have hlt : k + 1 < y.1 := by have := mt (m1_ok n (by omega) k (by omega)).mpr h158; omega
                      have hcn : cn (fun j => y.2.2.2 (j + 1)) k < 4 := by have := cn_le (fun j => y.2.2.2 (j + 1)) k; omega
                      refine g_aload_n 161 O dX6_lay_161 rfl 7 rfl ?_
                      refine g_get 162 O (v := .ref (a 16)) inX6 0 rfl rfl 28 (by decide) kf_X6_57 rfl dX6_lay_162 ?_
                      refine g_iload 165 O dX6_lay_165 0 rfl ?_
                      refine g_aload_n 167 O dX6_lay_167 rfl 7 rfl ?_
                      refine g_iload 168 O dX6_lay_168 0 rfl ?_
                      refine g_iload_n 170 O dX6_lay_170 rfl 9 rfl ?_
                      refine g_callV 171 O (na := 2) (av := [.int (nI k), .int p1]) (c_X6_joinAt l E a mw msd mn mon mhn mrd mtn mad mpn se wo jf ow oj kf ff vf cf tf pb fat whl nw nwd njn (nI (NR y)) so' vl2 jg2 tko sdn hh_ ik kw kh kr kt kc ko (nI k) p1 k rfl (by omega)) kl_X6_117 km_X6_joinAt kv_X6_joinAt ki_X6 kc_X6_joinAt (by decide +kernel) rfl (Nat.le_of_ble_eq_true rfl) (Nat.le_of_ble_eq_true rfl) (fun _ h => h) 0 rfl rfl (fun s => s) (fun _ _ _ _ h => h) rfl (Nat.le_of_ble_eq_true rfl) dX6_lay_171 (fun v9 s9 hv9 => ?_)
                      obtain ⟨rfl, rfl⟩ := hv9
                      refine g_si (bi (y.2.2.2 (k + 1))) (hy.2.2 k hlt) ?_
                      refine g_iconst 174 O (v := 1) dX6_lay_174 (by decide) ?_
                      refine g_icmp_ne 175 O 188 dX6_lay_175 (by decide) (fun h175 => ?_) (fun h175 => ?_)
                      · -- taken
                        refine g_iconst 188 O (v := 0) dX6_lay_188 (by decide) ?_
                        have hjk : 0 = bi (jo y.2.2.2 (r / 2 ^ n % 2 ^ npl y.2.2.2 n) k) := by rw [jo, bi_n1 h175]; rfl
                        refine g_iast 189 O (((mw, msd, mn, mon, mhn, mrd, mtn, mad, mpn), (se, wo, jf, ow, oj, kf, ff, vf, cf, tf, pb), (fat, whl, nw, nwd, njn), (nI (NR y), so', vl2, upd jg2 k 0), tko, (sdn, hh_), (ik, kw, kh, kr, kt, kc, ko))) 16 k rfl (rfl) (by omega) (by decide) rfl dX6_lay_189 ?_
                        refine g_iload 190 O dX6_lay_190 1 rfl ?_
                        refine g_aload_n 192 O dX6_lay_192 rfl 7 rfl ?_
                        refine g_iload 193 O dX6_lay_193 0 rfl ?_
                        refine g_iload_n 195 O dX6_lay_195 rfl 9 rfl ?_
                        refine g_callV 196 O (na := 2) (av := [.int (nI k), .int p1]) (c_X6_joinAt l E a mw msd mn mon mhn mrd mtn mad mpn se wo jf ow oj kf ff vf cf tf pb fat whl nw nwd njn (nI (NR y)) so' vl2 (upd jg2 k 0) tko sdn hh_ ik kw kh kr kt kc ko (nI k) p1 k rfl (by omega)) kl_X6_117 km_X6_joinAt kv_X6_joinAt ki_X6 kc_X6_joinAt (by decide +kernel) rfl (Nat.le_of_ble_eq_true rfl) (Nat.le_of_ble_eq_true rfl) (fun _ h => h) 0 rfl rfl (fun s => s) (fun _ _ _ _ h => h) rfl (Nat.le_of_ble_eq_true rfl) dX6_lay_196 (fun v9 s9 hv9 => ?_)
                        obtain ⟨rfl, rfl⟩ := hv9
                        refine g_si (bi (y.2.2.2 (k + 1))) (hy.2.2 k hlt) ?_
                        refine g_iconst 199 O (v := 1) dX6_lay_199 (by decide) ?_
                        refine g_icmp_ne 200 O 207 dX6_lay_200 (by decide) (fun h200 => ?_) (fun h200 => ?_)
                        · -- taken
                          refine g_iconst 207 O (v := 0) dX6_lay_207 (by decide) ?_
                          refine g_iadd 208 O dX6_lay_208 ?_
                          refine g_si (nI (cn (fun j => y.2.2.2 (j + 1)) (k + 1))) (cn_f (p := fun j => y.2.2.2 (j + 1)) (bi_n1 h200)) ?_
                          refine g_istore 209 O (lv' := [(8, .int (nI (cn (fun j => y.2.2.2 (j + 1)) (k + 1)))), (9, .int (nI k)), (7, .int (nI (r / 2 ^ n % 2 ^ npl y.2.2.2 n))), (6, .int (nI (r % 2 ^ n))), (5, .int (nI r)), (4, .int (nI (2 ^ npl y.2.2.2 n))), (3, .int (nI (2 ^ n))), (0, .ref (a 0)), (1, .int (nI n)), (2, .int p1)]) dX6_lay_209 (by decide) rfl ?_
                          refine g_iinc 211 O (v := nI (k + 1)) (q := 1) (lv' := [(9, .int (nI (k + 1))), (8, .int (nI (cn (fun j => y.2.2.2 (j + 1)) (k + 1)))), (7, .int (nI (r / 2 ^ n % 2 ^ npl y.2.2.2 n))), (6, .int (nI (r % 2 ^ n))), (5, .int (nI r)), (4, .int (nI (2 ^ npl y.2.2.2 n))), (3, .int (nI (2 ^ n))), (0, .ref (a 0)), (1, .int (nI n)), (2, .int p1)]) dX6_lay_211 rfl (nI_1 k) (by decide) rfl ?_
                          refine g_goto 214 O 153 dX6_lay_214 (by decide) ?_
                          refine g_sub [0, 1, 2, 3, 4, 5, 6, 7, 8, 9] (lv' := [(9, .int (nI (k + 1))), (8, .int (nI (cn (fun j => y.2.2.2 (j + 1)) (k + 1)))), (7, .int (nI (r / 2 ^ n % 2 ^ npl y.2.2.2 n))), (6, .int (nI (r % 2 ^ n))), (5, .int (nI r)), (4, .int (nI (2 ^ npl y.2.2.2 n))), (3, .int (nI (2 ^ n))), (0, .ref (a 0)), (1, .int (nI n)), (2, .int p1)]) rfl ?_
                          exact ih153 (k + 1) (upd jg2 k 0) (by omega) (upd_ext hj hjk) (by omega)
                        · -- not taken
                          refine g_iconst 203 O (v := 1) dX6_lay_203 (by decide) ?_
                          refine g_goto 204 O 208 dX6_lay_204 (by decide) ?_
                          refine g_iadd 208 O dX6_lay_208 ?_
                          refine g_si (nI (cn (fun j => y.2.2.2 (j + 1)) (k + 1))) (cn_t (p := fun j => y.2.2.2 (j + 1)) (bi_1 h200)) ?_
                          refine g_istore 209 O (lv' := [(8, .int (nI (cn (fun j => y.2.2.2 (j + 1)) (k + 1)))), (9, .int (nI k)), (7, .int (nI (r / 2 ^ n % 2 ^ npl y.2.2.2 n))), (6, .int (nI (r % 2 ^ n))), (5, .int (nI r)), (4, .int (nI (2 ^ npl y.2.2.2 n))), (3, .int (nI (2 ^ n))), (0, .ref (a 0)), (1, .int (nI n)), (2, .int p1)]) dX6_lay_209 (by decide) rfl ?_
                          refine g_iinc 211 O (v := nI (k + 1)) (q := 1) (lv' := [(9, .int (nI (k + 1))), (8, .int (nI (cn (fun j => y.2.2.2 (j + 1)) (k + 1)))), (7, .int (nI (r / 2 ^ n % 2 ^ npl y.2.2.2 n))), (6, .int (nI (r % 2 ^ n))), (5, .int (nI r)), (4, .int (nI (2 ^ npl y.2.2.2 n))), (3, .int (nI (2 ^ n))), (0, .ref (a 0)), (1, .int (nI n)), (2, .int p1)]) dX6_lay_211 rfl (nI_1 k) (by decide) rfl ?_
                          refine g_goto 214 O 153 dX6_lay_214 (by decide) ?_
                          refine g_sub [0, 1, 2, 3, 4, 5, 6, 7, 8, 9] (lv' := [(9, .int (nI (k + 1))), (8, .int (nI (cn (fun j => y.2.2.2 (j + 1)) (k + 1)))), (7, .int (nI (r / 2 ^ n % 2 ^ npl y.2.2.2 n))), (6, .int (nI (r % 2 ^ n))), (5, .int (nI r)), (4, .int (nI (2 ^ npl y.2.2.2 n))), (3, .int (nI (2 ^ n))), (0, .ref (a 0)), (1, .int (nI n)), (2, .int p1)]) rfl ?_
                          exact ih153 (k + 1) (upd jg2 k 0) (by omega) (upd_ext hj hjk) (by omega)
                      · -- not taken
                        refine g_iload 178 O dX6_lay_178 2 rfl ?_
                        refine g_iload 180 O dX6_lay_180 1 rfl ?_
                        refine g_ishr 182 O dX6_lay_182 ?_
                        refine g_iconst 183 O (v := 1) dX6_lay_183 (by decide) ?_
                        refine g_iand 184 O dX6_lay_184 ?_
                        refine g_goto 185 O 189 dX6_lay_185 (by decide) ?_
                        have hjk : (((nI (r / 2 ^ n % 2 ^ npl y.2.2.2 n)) >>> ((nI (cn (fun j => y.2.2.2 (j + 1)) k)) &&& 31)) &&& 1) = bi (jo y.2.2.2 (r / 2 ^ n % 2 ^ npl y.2.2.2 n) k) := by rw [jo, bi_1 h175, Bool.true_and]; exact sb16 (r / 2 ^ n % 2 ^ npl y.2.2.2 n) (by omega) _ hcn
                        refine g_iast 189 O (((mw, msd, mn, mon, mhn, mrd, mtn, mad, mpn), (se, wo, jf, ow, oj, kf, ff, vf, cf, tf, pb), (fat, whl, nw, nwd, njn), (nI (NR y), so', vl2, upd jg2 k (((nI (r / 2 ^ n % 2 ^ npl y.2.2.2 n)) >>> ((nI (cn (fun j => y.2.2.2 (j + 1)) k)) &&& 31)) &&& 1)), tko, (sdn, hh_), (ik, kw, kh, kr, kt, kc, ko))) 16 k rfl (rfl) (by omega) (by decide) rfl dX6_lay_189 ?_
                        refine g_iload 190 O dX6_lay_190 1 rfl ?_
                        refine g_aload_n 192 O dX6_lay_192 rfl 7 rfl ?_
                        refine g_iload 193 O dX6_lay_193 0 rfl ?_
                        refine g_iload_n 195 O dX6_lay_195 rfl 9 rfl ?_
                        refine g_callV 196 O (na := 2) (av := [.int (nI k), .int p1]) (c_X6_joinAt l E a mw msd mn mon mhn mrd mtn mad mpn se wo jf ow oj kf ff vf cf tf pb fat whl nw nwd njn (nI (NR y)) so' vl2 (upd jg2 k (((nI (r / 2 ^ n % 2 ^ npl y.2.2.2 n)) >>> ((nI (cn (fun j => y.2.2.2 (j + 1)) k)) &&& 31)) &&& 1)) tko sdn hh_ ik kw kh kr kt kc ko (nI k) p1 k rfl (by omega)) kl_X6_117 km_X6_joinAt kv_X6_joinAt ki_X6 kc_X6_joinAt (by decide +kernel) rfl (Nat.le_of_ble_eq_true rfl) (Nat.le_of_ble_eq_true rfl) (fun _ h => h) 0 rfl rfl (fun s => s) (fun _ _ _ _ h => h) rfl (Nat.le_of_ble_eq_true rfl) dX6_lay_196 (fun v9 s9 hv9 => ?_)
                        obtain ⟨rfl, rfl⟩ := hv9
                        refine g_si (bi (y.2.2.2 (k + 1))) (hy.2.2 k hlt) ?_
                        refine g_iconst 199 O (v := 1) dX6_lay_199 (by decide) ?_
                        refine g_icmp_ne 200 O 207 dX6_lay_200 (by decide) (fun h200 => ?_) (fun h200 => ?_)
                        · -- taken
                          refine g_iconst 207 O (v := 0) dX6_lay_207 (by decide) ?_
                          refine g_iadd 208 O dX6_lay_208 ?_
                          refine g_si (nI (cn (fun j => y.2.2.2 (j + 1)) (k + 1))) (cn_f (p := fun j => y.2.2.2 (j + 1)) (bi_n1 h200)) ?_
                          refine g_istore 209 O (lv' := [(8, .int (nI (cn (fun j => y.2.2.2 (j + 1)) (k + 1)))), (9, .int (nI k)), (7, .int (nI (r / 2 ^ n % 2 ^ npl y.2.2.2 n))), (6, .int (nI (r % 2 ^ n))), (5, .int (nI r)), (4, .int (nI (2 ^ npl y.2.2.2 n))), (3, .int (nI (2 ^ n))), (0, .ref (a 0)), (1, .int (nI n)), (2, .int p1)]) dX6_lay_209 (by decide) rfl ?_
                          refine g_iinc 211 O (v := nI (k + 1)) (q := 1) (lv' := [(9, .int (nI (k + 1))), (8, .int (nI (cn (fun j => y.2.2.2 (j + 1)) (k + 1)))), (7, .int (nI (r / 2 ^ n % 2 ^ npl y.2.2.2 n))), (6, .int (nI (r % 2 ^ n))), (5, .int (nI r)), (4, .int (nI (2 ^ npl y.2.2.2 n))), (3, .int (nI (2 ^ n))), (0, .ref (a 0)), (1, .int (nI n)), (2, .int p1)]) dX6_lay_211 rfl (nI_1 k) (by decide) rfl ?_
                          refine g_goto 214 O 153 dX6_lay_214 (by decide) ?_
                          refine g_sub [0, 1, 2, 3, 4, 5, 6, 7, 8, 9] (lv' := [(9, .int (nI (k + 1))), (8, .int (nI (cn (fun j => y.2.2.2 (j + 1)) (k + 1)))), (7, .int (nI (r / 2 ^ n % 2 ^ npl y.2.2.2 n))), (6, .int (nI (r % 2 ^ n))), (5, .int (nI r)), (4, .int (nI (2 ^ npl y.2.2.2 n))), (3, .int (nI (2 ^ n))), (0, .ref (a 0)), (1, .int (nI n)), (2, .int p1)]) rfl ?_
                          exact ih153 (k + 1) (upd jg2 k (((nI (r / 2 ^ n % 2 ^ npl y.2.2.2 n)) >>> ((nI (cn (fun j => y.2.2.2 (j + 1)) k)) &&& 31)) &&& 1)) (by omega) (upd_ext hj hjk) (by omega)
                        · -- not taken
                          refine g_iconst 203 O (v := 1) dX6_lay_203 (by decide) ?_
                          refine g_goto 204 O 208 dX6_lay_204 (by decide) ?_
                          refine g_iadd 208 O dX6_lay_208 ?_
                          refine g_si (nI (cn (fun j => y.2.2.2 (j + 1)) (k + 1))) (cn_t (p := fun j => y.2.2.2 (j + 1)) (bi_1 h200)) ?_
                          refine g_istore 209 O (lv' := [(8, .int (nI (cn (fun j => y.2.2.2 (j + 1)) (k + 1)))), (9, .int (nI k)), (7, .int (nI (r / 2 ^ n % 2 ^ npl y.2.2.2 n))), (6, .int (nI (r % 2 ^ n))), (5, .int (nI r)), (4, .int (nI (2 ^ npl y.2.2.2 n))), (3, .int (nI (2 ^ n))), (0, .ref (a 0)), (1, .int (nI n)), (2, .int p1)]) dX6_lay_209 (by decide) rfl ?_
                          refine g_iinc 211 O (v := nI (k + 1)) (q := 1) (lv' := [(9, .int (nI (k + 1))), (8, .int (nI (cn (fun j => y.2.2.2 (j + 1)) (k + 1)))), (7, .int (nI (r / 2 ^ n % 2 ^ npl y.2.2.2 n))), (6, .int (nI (r % 2 ^ n))), (5, .int (nI r)), (4, .int (nI (2 ^ npl y.2.2.2 n))), (3, .int (nI (2 ^ n))), (0, .ref (a 0)), (1, .int (nI n)), (2, .int p1)]) dX6_lay_211 rfl (nI_1 k) (by decide) rfl ?_
                          refine g_goto 214 O 153 dX6_lay_214 (by decide) ?_
                          refine g_sub [0, 1, 2, 3, 4, 5, 6, 7, 8, 9] (lv' := [(9, .int (nI (k + 1))), (8, .int (nI (cn (fun j => y.2.2.2 (j + 1)) (k + 1)))), (7, .int (nI (r / 2 ^ n % 2 ^ npl y.2.2.2 n))), (6, .int (nI (r % 2 ^ n))), (5, .int (nI r)), (4, .int (nI (2 ^ npl y.2.2.2 n))), (3, .int (nI (2 ^ n))), (0, .ref (a 0)), (1, .int (nI n)), (2, .int p1)]) rfl ?_
                          exact ih153 (k + 1) (upd jg2 k (((nI (r / 2 ^ n % 2 ^ npl y.2.2.2 n)) >>> ((nI (cn (fun j => y.2.2.2 (j + 1)) k)) &&& 31)) &&& 1)) (by omega) (upd_ext hj hjk) (by omega)
                exact L153 _ 0 jg' (Nat.zero_le _) (fun i h => absurd h (Nat.not_lt_zero _)) (Nat.lt_succ_self _)
              · -- not taken
                have hlt : k < y.1 := by have := lt_of_nge (by omega) h68; omega
                refine g_aload_n 71 O dX6_lay_71 rfl 6 rfl ?_
                refine g_iload 72 O dX6_lay_72 0 rfl ?_
                refine g_iload_n 74 O dX6_lay_74 rfl 8 rfl ?_
                refine g_callV 75 O (na := 2) (av := [.int (nI k), .int p1]) (c_X6_wordAt l E a mw msd mn mon mhn mrd mtn mad mpn se wo jf ow oj kf ff vf cf tf pb fat whl nw nwd njn (nI (NR y)) so' vl2 jg' tko sdn hh_ ik kw kh kr kt kc ko (nI k) p1 k rfl (by omega)) kl_X6_127 km_X6_wordAt kv_X6_wordAt ki_X6 kc_X6_wordAt (by decide +kernel) rfl (Nat.le_of_ble_eq_true rfl) (Nat.le_of_ble_eq_true rfl) (fun _ h => h) 0 rfl rfl (fun s => s) (fun _ _ _ _ h => h) rfl (Nat.le_of_ble_eq_true rfl) dX6_lay_75 (fun v9 s9 hv9 => ?_)
                obtain ⟨rfl, rfl⟩ := hv9
                refine g_si (nI (2 * y.2.1 k + (y.2.2.1 k).toNat)) ((hy.2.1 k hlt).1) ?_
                refine g_iconst 78 O (v := 2) dX6_lay_78 (by decide) ?_
                refine g_idiv 79 O dX6_lay_79 (by decide) ?_
                refine g_si (nI (y.2.1 k)) ((wd2 _ (hy.2.1 k hlt).2 _).1) ?_
                refine g_istore 80 O (lv' := [(9, .int (nI (y.2.1 k))), (8, .int (nI k)), (7, .int (nI (r / 2 ^ n % 2 ^ npl y.2.2.2 n))), (6, .int (nI (r % 2 ^ n))), (5, .int (nI r)), (4, .int (nI (2 ^ npl y.2.2.2 n))), (3, .int (nI (2 ^ n))), (0, .ref (a 0)), (1, .int (nI n)), (2, .int p1)]) dX6_lay_80 (by decide) rfl ?_
                refine g_iload 82 O dX6_lay_82 3 rfl ?_
                refine g_iload 84 O dX6_lay_84 1 rfl ?_
                refine g_ishr 86 O dX6_lay_86 ?_
                refine g_iconst 87 O (v := 1) dX6_lay_87 (by decide) ?_
                refine g_iand 88 O dX6_lay_88 ?_
                refine g_si (bi ((r % 2 ^ n).testBit k)) (sb16 _ (by omega) _ (by omega)) ?_
                refine g_iconst 89 O (v := 1) dX6_lay_89 (by decide) ?_
                refine g_icmp_ne 90 O 103 dX6_lay_90 (by decide) (fun h90 => ?_) (fun h90 => ?_)
                · -- taken
                  refine g_iload 103 O dX6_lay_103 0 rfl ?_
                  refine g_callS 105 O (na := 1) (av := [.int (nI (y.2.1 k))]) (c_X6_worldsOf l E _ _ (nI (y.2.1 k)) (y.2.1 k) rfl (hy.2.1 k hlt).2) kl_X6_130 ks_X6_worldsOf ki_X6 kc_X6_worldsOf (by decide +kernel) rfl (Nat.le_of_ble_eq_true rfl) (Nat.le_of_ble_eq_true rfl) (fun _ h => h) (fun s => s) (fun _ _ _ _ h => h) rfl (Nat.le_of_ble_eq_true rfl) dX6_lay_105 (fun v9 s9 hv9 => ?_)
                  obtain ⟨rfl, rfl⟩ := hv9
                  refine g_lstore 108 O (lv' := [(10, .long (Wf (y.2.1 k))), (9, .int (nI (y.2.1 k))), (8, .int (nI k)), (7, .int (nI (r / 2 ^ n % 2 ^ npl y.2.2.2 n))), (6, .int (nI (r % 2 ^ n))), (5, .int (nI r)), (4, .int (nI (2 ^ npl y.2.2.2 n))), (3, .int (nI (2 ^ n))), (0, .ref (a 0)), (1, .int (nI n)), (2, .int p1)]) dX6_lay_108 (by decide) rfl ?_
                  refine g_aload_n 110 O dX6_lay_110 rfl 8 rfl ?_
                  refine g_get 111 O (v := .ref (a 15)) inX6 0 rfl rfl 27 (by decide) kf_X6_54 rfl dX6_lay_111 ?_
                  refine g_iload 114 O dX6_lay_114 2 rfl ?_
                  refine g_aload_n 116 O dX6_lay_116 rfl 8 rfl ?_
                  refine g_iload 117 O dX6_lay_117 2 rfl ?_
                  refine g_iload_n 119 O dX6_lay_119 rfl 10 rfl ?_
                  refine g_callV 120 O (na := 2) (av := [.int (nI k), .int p1]) (c_X6_wordAt l E a mw msd mn mon mhn mrd mtn mad mpn se wo jf ow oj kf ff vf cf tf pb fat whl nw nwd njn (nI (NR y)) so' vl2 jg' tko sdn hh_ ik kw kh kr kt kc ko (nI k) p1 k rfl (by omega)) kl_X6_127 km_X6_wordAt kv_X6_wordAt ki_X6 kc_X6_wordAt (by decide +kernel) rfl (Nat.le_of_ble_eq_true rfl) (Nat.le_of_ble_eq_true rfl) (fun _ h => h) 0 rfl rfl (fun s => s) (fun _ _ _ _ h => h) rfl (Nat.le_of_ble_eq_true rfl) dX6_lay_120 (fun v9 s9 hv9 => ?_)
                  obtain ⟨rfl, rfl⟩ := hv9
                  refine g_si (nI (2 * y.2.1 k + (y.2.2.1 k).toNat)) ((hy.2.1 k hlt).1) ?_
                  refine g_iconst 123 O (v := 2) dX6_lay_123 (by decide) ?_
                  refine g_irem 124 O dX6_lay_124 (by decide) ?_
                  have hx : wv z y.2.1 y.2.2.1 (r % 2 ^ n) k = (Wf (y.2.1 k)) ^^^ (if y.2.2.1 k = true then -1 else 0) := wv_in (b := false) (bi_n1 h90) rfl
                  refine g_si (bi (y.2.2.1 k)) (by rw [(wd2 _ (hy.2.1 k hlt).2 (y.2.2.1 k)).1]; exact (wd2 _ (hy.2.1 k hlt).2 (y.2.2.1 k)).2) ?_
                  refine g_iconst 125 O (v := 1) dX6_lay_125 (by decide) ?_
                  refine g_icmp_ne 126 O 138 dX6_lay_126 (by decide) (fun h126 => ?_) (fun h126 => ?_)
                  · -- taken
                    refine g_lload 138 O dX6_lay_138 0 rfl ?_
                    have hvk : wv z y.2.1 y.2.2.1 (r % 2 ^ n) k = (Wf (y.2.1 k)) := by rw [hx, bi_n1 h126]; exact Int64.xor_zero
                    refine g_last 140 O (((mw, msd, mn, mon, mhn, mrd, mtn, mad, mpn), (se, wo, jf, ow, oj, kf, ff, vf, cf, tf, pb), (fat, whl, nw, nwd, njn), (nI (NR y), so', vp_updL vl2 k (Wf (y.2.1 k)), jg'), tko, (sdn, hh_), (ik, kw, kh, kr, kt, kc, ko))) 15 k rfl (rfl) (by omega) (by decide) rfl dX6_lay_140 ?_
                    refine g_iinc 141 O (v := nI (k + 1)) (q := 2) (lv' := [(8, .int (nI (k + 1))), (10, .long (Wf (y.2.1 k))), (9, .int (nI (y.2.1 k))), (7, .int (nI (r / 2 ^ n % 2 ^ npl y.2.2.2 n))), (6, .int (nI (r % 2 ^ n))), (5, .int (nI r)), (4, .int (nI (2 ^ npl y.2.2.2 n))), (3, .int (nI (2 ^ n))), (0, .ref (a 0)), (1, .int (nI n)), (2, .int p1)]) dX6_lay_141 rfl (nI_1 k) (by decide) rfl ?_
                    refine g_goto 144 O 65 dX6_lay_144 (by decide) ?_
                    refine g_sub [0, 3, 4, 5, 6, 7, 8, 9, 10] (lv' := [(8, .int (nI (k + 1))), (7, .int (nI (r / 2 ^ n % 2 ^ npl y.2.2.2 n))), (6, .int (nI (r % 2 ^ n))), (5, .int (nI r)), (4, .int (nI (2 ^ npl y.2.2.2 n))), (3, .int (nI (2 ^ n))), (0, .ref (a 0)), (1, .int (nI n)), (2, .int p1)]) rfl ?_
                    exact ih65 (k + 1) (vp_updL vl2 k (Wf (y.2.1 k))) (by omega) (updL_ext hv hvk.symm) (by omega)
                  · -- not taken
                    refine g_lload 129 O dX6_lay_129 0 rfl ?_
                    refine g_ldc2 131 O (v := (-1)) dX6_lay_131 kk_X6_134 ?_
                    refine g_lxor 134 O dX6_lay_134 ?_
                    refine g_goto 135 O 140 dX6_lay_135 (by decide) ?_
                    have hvk : wv z y.2.1 y.2.2.1 (r % 2 ^ n) k = ((Wf (y.2.1 k)) ^^^ ((-1))) := by rw [hx, bi_1 h126]; rfl
                    refine g_last 140 O (((mw, msd, mn, mon, mhn, mrd, mtn, mad, mpn), (se, wo, jf, ow, oj, kf, ff, vf, cf, tf, pb), (fat, whl, nw, nwd, njn), (nI (NR y), so', vp_updL vl2 k ((Wf (y.2.1 k)) ^^^ ((-1))), jg'), tko, (sdn, hh_), (ik, kw, kh, kr, kt, kc, ko))) 15 k rfl (rfl) (by omega) (by decide) rfl dX6_lay_140 ?_
                    refine g_iinc 141 O (v := nI (k + 1)) (q := 2) (lv' := [(8, .int (nI (k + 1))), (10, .long (Wf (y.2.1 k))), (9, .int (nI (y.2.1 k))), (7, .int (nI (r / 2 ^ n % 2 ^ npl y.2.2.2 n))), (6, .int (nI (r % 2 ^ n))), (5, .int (nI r)), (4, .int (nI (2 ^ npl y.2.2.2 n))), (3, .int (nI (2 ^ n))), (0, .ref (a 0)), (1, .int (nI n)), (2, .int p1)]) dX6_lay_141 rfl (nI_1 k) (by decide) rfl ?_
                    refine g_goto 144 O 65 dX6_lay_144 (by decide) ?_
                    refine g_sub [0, 3, 4, 5, 6, 7, 8, 9, 10] (lv' := [(8, .int (nI (k + 1))), (7, .int (nI (r / 2 ^ n % 2 ^ npl y.2.2.2 n))), (6, .int (nI (r % 2 ^ n))), (5, .int (nI r)), (4, .int (nI (2 ^ npl y.2.2.2 n))), (3, .int (nI (2 ^ n))), (0, .ref (a 0)), (1, .int (nI n)), (2, .int p1)]) rfl ?_
                    exact ih65 (k + 1) (vp_updL vl2 k ((Wf (y.2.1 k)) ^^^ ((-1)))) (by omega) (updL_ext hv hvk.symm) (by omega)
                · -- not taken
                  refine g_aload_n 93 O dX6_lay_93 rfl 7 rfl ?_
                  refine g_get 94 O (v := .ref (a 1)) inX6 0 rfl rfl 2 (by decide) kf_X6_7 rfl dX6_lay_94 ?_
                  refine g_iload 97 O dX6_lay_97 0 rfl ?_
                  refine g_iald 99 O 1 ((y.2.1 k)) rfl (rfl) ((hy.2.1 k hlt).2) (by decide) dX6_lay_99 ?_
                  refine g_goto 100 O 105 dX6_lay_100 (by decide) ?_
                  refine g_si (nI (z (y.2.1 k))) ((hz _ (hy.2.1 k hlt).2).1) ?_
                  refine g_callS 105 O (na := 1) (av := [.int (nI (z (y.2.1 k)))]) (c_X6_worldsOf l E _ _ (nI (z (y.2.1 k))) (z (y.2.1 k)) rfl (hz _ (hy.2.1 k hlt).2).2) kl_X6_130 ks_X6_worldsOf ki_X6 kc_X6_worldsOf (by decide +kernel) rfl (Nat.le_of_ble_eq_true rfl) (Nat.le_of_ble_eq_true rfl) (fun _ h => h) (fun s => s) (fun _ _ _ _ h => h) rfl (Nat.le_of_ble_eq_true rfl) dX6_lay_105 (fun v9 s9 hv9 => ?_)
                  obtain ⟨rfl, rfl⟩ := hv9
                  refine g_lstore 108 O (lv' := [(10, .long (Wf (z (y.2.1 k)))), (9, .int (nI (y.2.1 k))), (8, .int (nI k)), (7, .int (nI (r / 2 ^ n % 2 ^ npl y.2.2.2 n))), (6, .int (nI (r % 2 ^ n))), (5, .int (nI r)), (4, .int (nI (2 ^ npl y.2.2.2 n))), (3, .int (nI (2 ^ n))), (0, .ref (a 0)), (1, .int (nI n)), (2, .int p1)]) dX6_lay_108 (by decide) rfl ?_
                  refine g_aload_n 110 O dX6_lay_110 rfl 8 rfl ?_
                  refine g_get 111 O (v := .ref (a 15)) inX6 0 rfl rfl 27 (by decide) kf_X6_54 rfl dX6_lay_111 ?_
                  refine g_iload 114 O dX6_lay_114 2 rfl ?_
                  refine g_aload_n 116 O dX6_lay_116 rfl 8 rfl ?_
                  refine g_iload 117 O dX6_lay_117 2 rfl ?_
                  refine g_iload_n 119 O dX6_lay_119 rfl 10 rfl ?_
                  refine g_callV 120 O (na := 2) (av := [.int (nI k), .int p1]) (c_X6_wordAt l E a mw msd mn mon mhn mrd mtn mad mpn se wo jf ow oj kf ff vf cf tf pb fat whl nw nwd njn (nI (NR y)) so' vl2 jg' tko sdn hh_ ik kw kh kr kt kc ko (nI k) p1 k rfl (by omega)) kl_X6_127 km_X6_wordAt kv_X6_wordAt ki_X6 kc_X6_wordAt (by decide +kernel) rfl (Nat.le_of_ble_eq_true rfl) (Nat.le_of_ble_eq_true rfl) (fun _ h => h) 0 rfl rfl (fun s => s) (fun _ _ _ _ h => h) rfl (Nat.le_of_ble_eq_true rfl) dX6_lay_120 (fun v9 s9 hv9 => ?_)
                  obtain ⟨rfl, rfl⟩ := hv9
                  refine g_si (nI (2 * y.2.1 k + (y.2.2.1 k).toNat)) ((hy.2.1 k hlt).1) ?_
                  refine g_iconst 123 O (v := 2) dX6_lay_123 (by decide) ?_
                  refine g_irem 124 O dX6_lay_124 (by decide) ?_
                  have hx : wv z y.2.1 y.2.2.1 (r % 2 ^ n) k = (Wf (z (y.2.1 k))) ^^^ (if y.2.2.1 k = true then -1 else 0) := wv_in (b := true) (bi_1 h90) rfl
                  refine g_si (bi (y.2.2.1 k)) (by rw [(wd2 _ (hy.2.1 k hlt).2 (y.2.2.1 k)).1]; exact (wd2 _ (hy.2.1 k hlt).2 (y.2.2.1 k)).2) ?_
                  refine g_iconst 125 O (v := 1) dX6_lay_125 (by decide) ?_
                  refine g_icmp_ne 126 O 138 dX6_lay_126 (by decide) (fun h126 => ?_) (fun h126 => ?_)
                  · -- taken
                    refine g_lload 138 O dX6_lay_138 0 rfl ?_
                    have hvk : wv z y.2.1 y.2.2.1 (r % 2 ^ n) k = (Wf (z (y.2.1 k))) := by rw [hx, bi_n1 h126]; exact Int64.xor_zero
                    refine g_last 140 O (((mw, msd, mn, mon, mhn, mrd, mtn, mad, mpn), (se, wo, jf, ow, oj, kf, ff, vf, cf, tf, pb), (fat, whl, nw, nwd, njn), (nI (NR y), so', vp_updL vl2 k (Wf (z (y.2.1 k))), jg'), tko, (sdn, hh_), (ik, kw, kh, kr, kt, kc, ko))) 15 k rfl (rfl) (by omega) (by decide) rfl dX6_lay_140 ?_
                    refine g_iinc 141 O (v := nI (k + 1)) (q := 2) (lv' := [(8, .int (nI (k + 1))), (10, .long (Wf (z (y.2.1 k)))), (9, .int (nI (y.2.1 k))), (7, .int (nI (r / 2 ^ n % 2 ^ npl y.2.2.2 n))), (6, .int (nI (r % 2 ^ n))), (5, .int (nI r)), (4, .int (nI (2 ^ npl y.2.2.2 n))), (3, .int (nI (2 ^ n))), (0, .ref (a 0)), (1, .int (nI n)), (2, .int p1)]) dX6_lay_141 rfl (nI_1 k) (by decide) rfl ?_
                    refine g_goto 144 O 65 dX6_lay_144 (by decide) ?_
                    refine g_sub [0, 3, 4, 5, 6, 7, 8, 9, 10] (lv' := [(8, .int (nI (k + 1))), (7, .int (nI (r / 2 ^ n % 2 ^ npl y.2.2.2 n))), (6, .int (nI (r % 2 ^ n))), (5, .int (nI r)), (4, .int (nI (2 ^ npl y.2.2.2 n))), (3, .int (nI (2 ^ n))), (0, .ref (a 0)), (1, .int (nI n)), (2, .int p1)]) rfl ?_
                    exact ih65 (k + 1) (vp_updL vl2 k (Wf (z (y.2.1 k)))) (by omega) (updL_ext hv hvk.symm) (by omega)
                  · -- not taken
                    refine g_lload 129 O dX6_lay_129 0 rfl ?_
                    refine g_ldc2 131 O (v := (-1)) dX6_lay_131 kk_X6_134 ?_
                    refine g_lxor 134 O dX6_lay_134 ?_
                    refine g_goto 135 O 140 dX6_lay_135 (by decide) ?_
                    have hvk : wv z y.2.1 y.2.2.1 (r % 2 ^ n) k = ((Wf (z (y.2.1 k))) ^^^ ((-1))) := by rw [hx, bi_1 h126]; rfl
                    refine g_last 140 O (((mw, msd, mn, mon, mhn, mrd, mtn, mad, mpn), (se, wo, jf, ow, oj, kf, ff, vf, cf, tf, pb), (fat, whl, nw, nwd, njn), (nI (NR y), so', vp_updL vl2 k ((Wf (z (y.2.1 k))) ^^^ ((-1))), jg'), tko, (sdn, hh_), (ik, kw, kh, kr, kt, kc, ko))) 15 k rfl (rfl) (by omega) (by decide) rfl dX6_lay_140 ?_
                    refine g_iinc 141 O (v := nI (k + 1)) (q := 2) (lv' := [(8, .int (nI (k + 1))), (10, .long (Wf (z (y.2.1 k)))), (9, .int (nI (y.2.1 k))), (7, .int (nI (r / 2 ^ n % 2 ^ npl y.2.2.2 n))), (6, .int (nI (r % 2 ^ n))), (5, .int (nI r)), (4, .int (nI (2 ^ npl y.2.2.2 n))), (3, .int (nI (2 ^ n))), (0, .ref (a 0)), (1, .int (nI n)), (2, .int p1)]) dX6_lay_141 rfl (nI_1 k) (by decide) rfl ?_
                    refine g_goto 144 O 65 dX6_lay_144 (by decide) ?_
                    refine g_sub [0, 3, 4, 5, 6, 7, 8, 9, 10] (lv' := [(8, .int (nI (k + 1))), (7, .int (nI (r / 2 ^ n % 2 ^ npl y.2.2.2 n))), (6, .int (nI (r % 2 ^ n))), (5, .int (nI r)), (4, .int (nI (2 ^ npl y.2.2.2 n))), (3, .int (nI (2 ^ n))), (0, .ref (a 0)), (1, .int (nI n)), (2, .int p1)]) rfl ?_
                    exact ih65 (k + 1) (vp_updL vl2 k ((Wf (z (y.2.1 k))) ^^^ ((-1)))) (by omega) (updL_ext hv hvk.symm) (by omega)
          exact L65 _ 0 vl' (Nat.zero_le _) (fun i h => absurd h (Nat.not_lt_zero _)) (Nat.lt_succ_self _)
    exact L38 _ 0 so vl jg (Nat.zero_le _) (fun i h => absurd h (Nat.not_lt_zero _)) (Nat.lt_succ_self _)
  · -- not taken
    have hn0 : n = 0 := (nI_eq (b := 0) (by omega) (by decide)).mp h16
    refine g_iconst 19 O (v := 0) dX6_lay_19 (by decide) ?_
    refine g_goto 20 O 32 dX6_lay_20 (by decide) ?_
    refine g_si (nI (NR y)) (by rw [NR, if_pos (by omega)]; rfl) ?_
    refine g_put 32 O inX6 tyX6_ok nmX6 (((mw, msd, mn, mon, mhn, mrd, mtn, mad, mpn), (se, wo, jf, ow, oj, kf, ff, vf, cf, tf, pb), (fat, whl, nw, nwd, njn), (nI (NR y), so, vl, jg), tko, (sdn, hh_), (ik, kw, kh, kr, kt, kc, ko))) 0 rfl rfl 25 (by decide) kf_X6_110 rfl (rfl) (rfl) (Nat.le_of_ble_eq_true rfl) rfl dX6_lay_32 ?_
    refine g_iconst 35 O (v := 0) dX6_lay_35 (by decide) ?_
    refine g_istore 36 O (lv' := [(5, .int 0), (4, .int (nI (2 ^ npl y.2.2.2 n))), (3, .int (nI (2 ^ n))), (0, .ref (a 0)), (1, .int (nI n)), (2, .int p1)]) dX6_lay_36 (by decide) rfl ?_
    refine g_sub [0, 1, 2, 3, 4, 5] (lv' := [(5, .int 0), (4, .int (nI (2 ^ npl y.2.2.2 n))), (3, .int (nI (2 ^ n))), (0, .ref (a 0)), (1, .int (nI n)), (2, .int p1)]) rfl ?_
    have L38 : ∀ (fuel : Nat) (r : Nat) (so' vl' : Nat → Int64) (jg' : Nat → Int32) (hr : r ≤ NR y) (hso : ∀ i, i < r → so' i = TR z y i), NR y - r < fuel → G l E (wM E a) P0 X 12 (((mw, msd, mn, mon, mhn, mrd, mtn, mad, mpn), (se, wo, jf, ow, oj, kf, ff, vf, cf, tf, pb), (fat, whl, nw, nwd, njn), (nI (NR y), so', vl', jg'), tko, (sdn, hh_), (ik, kw, kh, kr, kt, kc, ko))) 38 [(5, .int (nI r)), (4, .int (nI (2 ^ npl y.2.2.2 n))), (3, .int (nI (2 ^ n))), (0, .ref (a 0)), (1, .int (nI n)), (2, .int p1)] [] := by
      intro fuel
      induction fuel with
      | zero => intro r so' vl' jg' hr hso hfu; exact absurd hfu (Nat.not_lt_zero _)
      | succ fuel ih38 =>
        intro r so' vl' jg' hr hso hfu
        refine g_iload 38 O dX6_lay_38 0 rfl ?_
        refine g_aload_n 40 O dX6_lay_40 rfl 3 rfl ?_
        refine g_get 41 O (v := .int (nI (NR y))) inX6 0 rfl rfl 25 (by decide) kf_X6_110 rfl dX6_lay_41 ?_
        refine g_icmp_ge 44 O 242 dX6_lay_44 (by decide) (fun h44 => ?_) (fun h44 => ?_)
        · -- taken
          have e : r = NR y := by have := ge_of_le (by omega) (by omega) h44; omega
          subst e
          exact g_vret 242 O dX6_lay_242 (by rw [hP0]; exact ⟨rfl, so', vl', jg', rfl, hso⟩)
        · -- not taken
          have hlr : r < NR y := lt_of_nge (by omega) h44
          have hb5 := br_lt hy4 hlr
          rw [← hn] at hb5
          have hdv := dv_ok n (by omega) r (by omega)
          have hS16 := p2_16 n (by omega)
          have hsec : r % 2 ^ n < 2 ^ n := Nat.mod_lt _ (Nat.two_pow_pos _)
          have hP16 := p2_16 (npl y.2.2.2 n) (by omega)
          have hrd : r / 2 ^ n ≤ r := Nat.div_le_self _ _
          have hway : r / 2 ^ n % 2 ^ npl y.2.2.2 n < 2 ^ npl y.2.2.2 n := Nat.mod_lt _ (Nat.two_pow_pos _)
          have hdw := dv_ok (npl y.2.2.2 n) (by omega) (r / 2 ^ n) (by omega)
          refine g_iload 47 O dX6_lay_47 0 rfl ?_
          refine g_iload_n 49 O dX6_lay_49 rfl 2 rfl ?_
          refine g_irem 50 O dX6_lay_50 (p2_ne (by omega)) ?_
          refine g_si (nI (r % 2 ^ n)) (by rw [hdv.1]; exact hdv.2) ?_
          refine g_istore 51 O (lv' := [(6, .int (nI (r % 2 ^ n))), (5, .int (nI r)), (4, .int (nI (2 ^ npl y.2.2.2 n))), (3, .int (nI (2 ^ n))), (0, .ref (a 0)), (1, .int (nI n)), (2, .int p1)]) dX6_lay_51 (by decide) rfl ?_
          refine g_iload 53 O dX6_lay_53 1 rfl ?_
          refine g_iload_n 55 O dX6_lay_55 rfl 3 rfl ?_
          refine g_idiv 56 O dX6_lay_56 (p2_ne (by omega)) ?_
          refine g_si (nI (r / 2 ^ n)) (hdv.1) ?_
          refine g_iload 57 O dX6_lay_57 2 rfl ?_
          refine g_irem 59 O dX6_lay_59 (p2_ne (by omega)) ?_
          refine g_si (nI (r / 2 ^ n % 2 ^ npl y.2.2.2 n)) (by rw [hdw.1]; exact hdw.2) ?_
          refine g_istore 60 O (lv' := [(7, .int (nI (r / 2 ^ n % 2 ^ npl y.2.2.2 n))), (6, .int (nI (r % 2 ^ n))), (5, .int (nI r)), (4, .int (nI (2 ^ npl y.2.2.2 n))), (3, .int (nI (2 ^ n))), (0, .ref (a 0)), (1, .int (nI n)), (2, .int p1)]) dX6_lay_60 (by decide) rfl ?_
          refine g_iconst 62 O (v := 0) dX6_lay_62 (by decide) ?_
          refine g_istore 63 O (lv' := [(8, .int 0), (7, .int (nI (r / 2 ^ n % 2 ^ npl y.2.2.2 n))), (6, .int (nI (r % 2 ^ n))), (5, .int (nI r)), (4, .int (nI (2 ^ npl y.2.2.2 n))), (3, .int (nI (2 ^ n))), (0, .ref (a 0)), (1, .int (nI n)), (2, .int p1)]) dX6_lay_63 (by decide) rfl ?_
          refine g_sub [0, 1, 2, 3, 4, 5, 6, 7, 8] (lv' := [(8, .int 0), (7, .int (nI (r / 2 ^ n % 2 ^ npl y.2.2.2 n))), (6, .int (nI (r % 2 ^ n))), (5, .int (nI r)), (4, .int (nI (2 ^ npl y.2.2.2 n))), (3, .int (nI (2 ^ n))), (0, .ref (a 0)), (1, .int (nI n)), (2, .int p1)]) rfl ?_
          have L65 : ∀ (fuel : Nat) (k : Nat) (vl2 : Nat → Int64) (hk : k ≤ n) (hv : ∀ i, i < k → vl2 i = wv z y.2.1 y.2.2.1 (r % 2 ^ n) i), n - k < fuel → G l E (wM E a) P0 X 12 (((mw, msd, mn, mon, mhn, mrd, mtn, mad, mpn), (se, wo, jf, ow, oj, kf, ff, vf, cf, tf, pb), (fat, whl, nw, nwd, njn), (nI (NR y), so', vl2, jg'), tko, (sdn, hh_), (ik, kw, kh, kr, kt, kc, ko))) 65 [(8, .int (nI k)), (7, .int (nI (r / 2 ^ n % 2 ^ npl y.2.2.2 n))), (6, .int (nI (r % 2 ^ n))), (5, .int (nI r)), (4, .int (nI (2 ^ npl y.2.2.2 n))), (3, .int (nI (2 ^ n))), (0, .ref (a 0)), (1, .int (nI n)), (2, .int p1)] [] := by
            intro fuel
            induction fuel with
            | zero => intro k vl2 hk hv hfu; exact absurd hfu (Nat.not_lt_zero _)
            | succ fuel ih65 =>
              intro k vl2 hk hv hfu
              refine g_iload 65 O dX6_lay_65 0 rfl ?_
              refine g_iload_n 67 O dX6_lay_67 rfl 7 rfl ?_
              refine g_icmp_ge 68 O 147 dX6_lay_68 (by decide) (fun h68 => ?_) (fun h68 => ?_)
              · -- taken
                have e : k = n := by have := ge_of_le (by omega) (by omega) h68; omega
                rw [e] at hv
                refine g_iconst 147 O (v := 0) dX6_lay_147 (by decide) ?_
                refine g_istore 148 O (lv' := [(8, .int 0), (7, .int (nI (r / 2 ^ n % 2 ^ npl y.2.2.2 n))), (6, .int (nI (r % 2 ^ n))), (5, .int (nI r)), (4, .int (nI (2 ^ npl y.2.2.2 n))), (3, .int (nI (2 ^ n))), (0, .ref (a 0)), (1, .int (nI n)), (2, .int p1)]) dX6_lay_148 (by decide) rfl ?_
                refine g_iconst 150 O (v := 0) dX6_lay_150 (by decide) ?_
                refine g_istore 151 O (lv' := [(9, .int 0), (8, .int 0), (7, .int (nI (r / 2 ^ n % 2 ^ npl y.2.2.2 n))), (6, .int (nI (r % 2 ^ n))), (5, .int (nI r)), (4, .int (nI (2 ^ npl y.2.2.2 n))), (3, .int (nI (2 ^ n))), (0, .ref (a 0)), (1, .int (nI n)), (2, .int p1)]) dX6_lay_151 (by decide) rfl ?_
                refine g_sub [0, 1, 2, 3, 4, 5, 6, 7, 8, 9] (lv' := [(9, .int 0), (8, .int 0), (7, .int (nI (r / 2 ^ n % 2 ^ npl y.2.2.2 n))), (6, .int (nI (r % 2 ^ n))), (5, .int (nI r)), (4, .int (nI (2 ^ npl y.2.2.2 n))), (3, .int (nI (2 ^ n))), (0, .ref (a 0)), (1, .int (nI n)), (2, .int p1)]) rfl ?_
                have L153 : ∀ (fuel : Nat) (k : Nat) (jg2 : Nat → Int32) (hk : k ≤ n - 1) (hj : ∀ i, i < k → jg2 i = bi (jo y.2.2.2 (r / 2 ^ n % 2 ^ npl y.2.2.2 n) i)), n - k < fuel → G l E (wM E a) P0 X 12 (((mw, msd, mn, mon, mhn, mrd, mtn, mad, mpn), (se, wo, jf, ow, oj, kf, ff, vf, cf, tf, pb), (fat, whl, nw, nwd, njn), (nI (NR y), so', vl2, jg2), tko, (sdn, hh_), (ik, kw, kh, kr, kt, kc, ko))) 153 [(9, .int (nI k)), (8, .int (nI (cn (fun j => y.2.2.2 (j + 1)) k))), (7, .int (nI (r / 2 ^ n % 2 ^ npl y.2.2.2 n))), (6, .int (nI (r % 2 ^ n))), (5, .int (nI r)), (4, .int (nI (2 ^ npl y.2.2.2 n))), (3, .int (nI (2 ^ n))), (0, .ref (a 0)), (1, .int (nI n)), (2, .int p1)] [] := by
                  intro fuel
                  induction fuel with
                  | zero => intro k jg2 hk hj hfu; exact absurd hfu (Nat.not_lt_zero _)
                  | succ fuel ih153 =>
                    intro k jg2 hk hj hfu
                    refine g_iload 153 O dX6_lay_153 0 rfl ?_
                    refine g_iload_n 155 O dX6_lay_155 rfl 8 rfl ?_
                    refine g_iconst 156 O (v := 1) dX6_lay_156 (by decide) ?_
                    refine g_isub 157 O dX6_lay_157 ?_
                    refine g_icmp_ge 158 O 217 dX6_lay_158 (by decide) (fun h158 => ?_) (fun h158 => ?_)
                    · -- taken
                      have e : k = n - 1 := by have := (m1_ok n (by omega) k (by omega)).mp h158; omega
                      rw [e] at hj
                      refine g_aload_n 217 O dX6_lay_217 rfl 7 rfl ?_
                      refine g_get 218 O (v := .ref (a 14)) inX6 0 rfl rfl 26 (by decide) kf_X6_50 rfl dX6_lay_218 ?_
                      refine g_iload 221 O dX6_lay_221 4 rfl ?_
                      refine g_aload_n 223 O dX6_lay_223 rfl 7 rfl ?_
                      refine g_iload_n 224 O dX6_lay_224 rfl 8 rfl ?_
                      refine g_iload 225 O dX6_lay_225 4 rfl ?_
                      refine g_iload_n 227 O dX6_lay_227 rfl 6 rfl ?_
                      refine g_idiv 228 O dX6_lay_228 (p2_ne (by omega)) ?_
                      refine g_si (nI (r / 2 ^ n)) (hdv.1) ?_
                      refine g_iload 229 O dX6_lay_229 5 rfl ?_
                      refine g_idiv 231 O dX6_lay_231 (p2_ne (by omega)) ?_
                      refine g_si (nI (r / 2 ^ n / 2 ^ npl y.2.2.2 n)) (hdw.1) ?_
                      refine g_callV 232 O (na := 2) (av := [.int (nI n), .int (nI (r / 2 ^ n / 2 ^ npl y.2.2.2 n))]) (c_X6_bracketed l E a mw msd mn mon mhn mrd mtn mad mpn se wo jf ow oj kf ff vf cf tf pb fat whl nw nwd njn (nI (NR y)) so' vl2 jg2 tko sdn hh_ ik kw kh kr kt kc ko (nI n) (nI (r / 2 ^ n / 2 ^ npl y.2.2.2 n)) n (r / 2 ^ n / 2 ^ npl y.2.2.2 n) (jo y.2.2.2 (r / 2 ^ n % 2 ^ npl y.2.2.2 n)) rfl hb5.1 (by omega) rfl hb5.2 hj) kl_X6_136 km_X6_bracketed kv_X6_bracketed ki_X6 kc_X6_bracketed (by decide +kernel) rfl (Nat.le_of_ble_eq_true rfl) (Nat.le_of_ble_eq_true rfl) (fun _ h => h) 0 rfl rfl (fun s => s) (fun _ _ _ _ h => h) rfl (Nat.le_of_ble_eq_true rfl) dX6_lay_232 (fun v9 s9 hv9 => ?_)
                      obtain ⟨rfl, rfl⟩ := hv9
                      refine g_sl (TR z y r) (by rw [TR_r, ← hn]; exact brk_cong hb5.1 (by omega) (fun _ _ => rfl) hv) ?_
                      refine g_last 235 O (((mw, msd, mn, mon, mhn, mrd, mtn, mad, mpn), (se, wo, jf, ow, oj, kf, ff, vf, cf, tf, pb), (fat, whl, nw, nwd, njn), (nI (NR y), vp_updL so' r (TR z y r), vl2, jg2), tko, (sdn, hh_), (ik, kw, kh, kr, kt, kc, ko))) 14 r rfl (rfl) (by omega) (by decide) rfl dX6_lay_235 ?_
                      refine g_iinc 236 O (v := nI (r + 1)) (q := 4) (lv' := [(5, .int (nI (r + 1))), (9, .int (nI k)), (8, .int (nI (cn (fun j => y.2.2.2 (j + 1)) k))), (7, .int (nI (r / 2 ^ n % 2 ^ npl y.2.2.2 n))), (6, .int (nI (r % 2 ^ n))), (4, .int (nI (2 ^ npl y.2.2.2 n))), (3, .int (nI (2 ^ n))), (0, .ref (a 0)), (1, .int (nI n)), (2, .int p1)]) dX6_lay_236 rfl (nI_1 r) (by decide) rfl ?_
                      refine g_goto 239 O 38 dX6_lay_239 (by decide) ?_
                      refine g_sub [0, 5, 6, 7, 8, 9] (lv' := [(5, .int (nI (r + 1))), (4, .int (nI (2 ^ npl y.2.2.2 n))), (3, .int (nI (2 ^ n))), (0, .ref (a 0)), (1, .int (nI n)), (2, .int p1)]) rfl ?_
                      exact ih38 (r + 1) (vp_updL so' r (TR z y r)) vl2 jg2 (by omega) (updL_ext hso rfl) (by omega)
                    · -- not taken
                      have hlt : k + 1 < y.1 := by have := mt (m1_ok n (by omega) k (by omega)).mpr h158; omega
                      have hcn : cn (fun j => y.2.2.2 (j + 1)) k < 4 := by have := cn_le (fun j => y.2.2.2 (j + 1)) k; omega
                      refine g_aload_n 161 O dX6_lay_161 rfl 7 rfl ?_
                      refine g_get 162 O (v := .ref (a 16)) inX6 0 rfl rfl 28 (by decide) kf_X6_57 rfl dX6_lay_162 ?_
                      refine g_iload 165 O dX6_lay_165 0 rfl ?_
                      refine g_aload_n 167 O dX6_lay_167 rfl 7 rfl ?_
                      refine g_iload 168 O dX6_lay_168 0 rfl ?_
                      refine g_iload_n 170 O dX6_lay_170 rfl 9 rfl ?_
                      refine g_callV 171 O (na := 2) (av := [.int (nI k), .int p1]) (c_X6_joinAt l E a mw msd mn mon mhn mrd mtn mad mpn se wo jf ow oj kf ff vf cf tf pb fat whl nw nwd njn (nI (NR y)) so' vl2 jg2 tko sdn hh_ ik kw kh kr kt kc ko (nI k) p1 k rfl (by omega)) kl_X6_117 km_X6_joinAt kv_X6_joinAt ki_X6 kc_X6_joinAt (by decide +kernel) rfl (Nat.le_of_ble_eq_true rfl) (Nat.le_of_ble_eq_true rfl) (fun _ h => h) 0 rfl rfl (fun s => s) (fun _ _ _ _ h => h) rfl (Nat.le_of_ble_eq_true rfl) dX6_lay_171 (fun v9 s9 hv9 => ?_)
                      obtain ⟨rfl, rfl⟩ := hv9
                      refine g_si (bi (y.2.2.2 (k + 1))) (hy.2.2 k hlt) ?_
                      refine g_iconst 174 O (v := 1) dX6_lay_174 (by decide) ?_
                      refine g_icmp_ne 175 O 188 dX6_lay_175 (by decide) (fun h175 => ?_) (fun h175 => ?_)
                      · -- taken
                        refine g_iconst 188 O (v := 0) dX6_lay_188 (by decide) ?_
                        have hjk : 0 = bi (jo y.2.2.2 (r / 2 ^ n % 2 ^ npl y.2.2.2 n) k) := by rw [jo, bi_n1 h175]; rfl
                        refine g_iast 189 O (((mw, msd, mn, mon, mhn, mrd, mtn, mad, mpn), (se, wo, jf, ow, oj, kf, ff, vf, cf, tf, pb), (fat, whl, nw, nwd, njn), (nI (NR y), so', vl2, upd jg2 k 0), tko, (sdn, hh_), (ik, kw, kh, kr, kt, kc, ko))) 16 k rfl (rfl) (by omega) (by decide) rfl dX6_lay_189 ?_
                        refine g_iload 190 O dX6_lay_190 1 rfl ?_
                        refine g_aload_n 192 O dX6_lay_192 rfl 7 rfl ?_
                        refine g_iload 193 O dX6_lay_193 0 rfl ?_
                        refine g_iload_n 195 O dX6_lay_195 rfl 9 rfl ?_
                        refine g_callV 196 O (na := 2) (av := [.int (nI k), .int p1]) (c_X6_joinAt l E a mw msd mn mon mhn mrd mtn mad mpn se wo jf ow oj kf ff vf cf tf pb fat whl nw nwd njn (nI (NR y)) so' vl2 (upd jg2 k 0) tko sdn hh_ ik kw kh kr kt kc ko (nI k) p1 k rfl (by omega)) kl_X6_117 km_X6_joinAt kv_X6_joinAt ki_X6 kc_X6_joinAt (by decide +kernel) rfl (Nat.le_of_ble_eq_true rfl) (Nat.le_of_ble_eq_true rfl) (fun _ h => h) 0 rfl rfl (fun s => s) (fun _ _ _ _ h => h) rfl (Nat.le_of_ble_eq_true rfl) dX6_lay_196 (fun v9 s9 hv9 => ?_)
                        obtain ⟨rfl, rfl⟩ := hv9
                        refine g_si (bi (y.2.2.2 (k + 1))) (hy.2.2 k hlt) ?_
                        refine g_iconst 199 O (v := 1) dX6_lay_199 (by decide) ?_
                        refine g_icmp_ne 200 O 207 dX6_lay_200 (by decide) (fun h200 => ?_) (fun h200 => ?_)
                        · -- taken
                          refine g_iconst 207 O (v := 0) dX6_lay_207 (by decide) ?_
                          refine g_iadd 208 O dX6_lay_208 ?_
                          refine g_si (nI (cn (fun j => y.2.2.2 (j + 1)) (k + 1))) (cn_f (p := fun j => y.2.2.2 (j + 1)) (bi_n1 h200)) ?_
                          refine g_istore 209 O (lv' := [(8, .int (nI (cn (fun j => y.2.2.2 (j + 1)) (k + 1)))), (9, .int (nI k)), (7, .int (nI (r / 2 ^ n % 2 ^ npl y.2.2.2 n))), (6, .int (nI (r % 2 ^ n))), (5, .int (nI r)), (4, .int (nI (2 ^ npl y.2.2.2 n))), (3, .int (nI (2 ^ n))), (0, .ref (a 0)), (1, .int (nI n)), (2, .int p1)]) dX6_lay_209 (by decide) rfl ?_
                          refine g_iinc 211 O (v := nI (k + 1)) (q := 1) (lv' := [(9, .int (nI (k + 1))), (8, .int (nI (cn (fun j => y.2.2.2 (j + 1)) (k + 1)))), (7, .int (nI (r / 2 ^ n % 2 ^ npl y.2.2.2 n))), (6, .int (nI (r % 2 ^ n))), (5, .int (nI r)), (4, .int (nI (2 ^ npl y.2.2.2 n))), (3, .int (nI (2 ^ n))), (0, .ref (a 0)), (1, .int (nI n)), (2, .int p1)]) dX6_lay_211 rfl (nI_1 k) (by decide) rfl ?_
                          refine g_goto 214 O 153 dX6_lay_214 (by decide) ?_
                          refine g_sub [0, 1, 2, 3, 4, 5, 6, 7, 8, 9] (lv' := [(9, .int (nI (k + 1))), (8, .int (nI (cn (fun j => y.2.2.2 (j + 1)) (k + 1)))), (7, .int (nI (r / 2 ^ n % 2 ^ npl y.2.2.2 n))), (6, .int (nI (r % 2 ^ n))), (5, .int (nI r)), (4, .int (nI (2 ^ npl y.2.2.2 n))), (3, .int (nI (2 ^ n))), (0, .ref (a 0)), (1, .int (nI n)), (2, .int p1)]) rfl ?_
                          exact ih153 (k + 1) (upd jg2 k 0) (by omega) (upd_ext hj hjk) (by omega)
                        · -- not taken
                          refine g_iconst 203 O (v := 1) dX6_lay_203 (by decide) ?_
                          refine g_goto 204 O 208 dX6_lay_204 (by decide) ?_
                          refine g_iadd 208 O dX6_lay_208 ?_
                          refine g_si (nI (cn (fun j => y.2.2.2 (j + 1)) (k + 1))) (cn_t (p := fun j => y.2.2.2 (j + 1)) (bi_1 h200)) ?_
                          refine g_istore 209 O (lv' := [(8, .int (nI (cn (fun j => y.2.2.2 (j + 1)) (k + 1)))), (9, .int (nI k)), (7, .int (nI (r / 2 ^ n % 2 ^ npl y.2.2.2 n))), (6, .int (nI (r % 2 ^ n))), (5, .int (nI r)), (4, .int (nI (2 ^ npl y.2.2.2 n))), (3, .int (nI (2 ^ n))), (0, .ref (a 0)), (1, .int (nI n)), (2, .int p1)]) dX6_lay_209 (by decide) rfl ?_
                          refine g_iinc 211 O (v := nI (k + 1)) (q := 1) (lv' := [(9, .int (nI (k + 1))), (8, .int (nI (cn (fun j => y.2.2.2 (j + 1)) (k + 1)))), (7, .int (nI (r / 2 ^ n % 2 ^ npl y.2.2.2 n))), (6, .int (nI (r % 2 ^ n))), (5, .int (nI r)), (4, .int (nI (2 ^ npl y.2.2.2 n))), (3, .int (nI (2 ^ n))), (0, .ref (a 0)), (1, .int (nI n)), (2, .int p1)]) dX6_lay_211 rfl (nI_1 k) (by decide) rfl ?_
                          refine g_goto 214 O 153 dX6_lay_214 (by decide) ?_
                          refine g_sub [0, 1, 2, 3, 4, 5, 6, 7, 8, 9] (lv' := [(9, .int (nI (k + 1))), (8, .int (nI (cn (fun j => y.2.2.2 (j + 1)) (k + 1)))), (7, .int (nI (r / 2 ^ n % 2 ^ npl y.2.2.2 n))), (6, .int (nI (r % 2 ^ n))), (5, .int (nI r)), (4, .int (nI (2 ^ npl y.2.2.2 n))), (3, .int (nI (2 ^ n))), (0, .ref (a 0)), (1, .int (nI n)), (2, .int p1)]) rfl ?_
                          exact ih153 (k + 1) (upd jg2 k 0) (by omega) (upd_ext hj hjk) (by omega)
                      · -- not taken
                        refine g_iload 178 O dX6_lay_178 2 rfl ?_
                        refine g_iload 180 O dX6_lay_180 1 rfl ?_
                        refine g_ishr 182 O dX6_lay_182 ?_
                        refine g_iconst 183 O (v := 1) dX6_lay_183 (by decide) ?_
                        refine g_iand 184 O dX6_lay_184 ?_
                        refine g_goto 185 O 189 dX6_lay_185 (by decide) ?_
                        have hjk : (((nI (r / 2 ^ n % 2 ^ npl y.2.2.2 n)) >>> ((nI (cn (fun j => y.2.2.2 (j + 1)) k)) &&& 31)) &&& 1) = bi (jo y.2.2.2 (r / 2 ^ n % 2 ^ npl y.2.2.2 n) k) := by rw [jo, bi_1 h175, Bool.true_and]; exact sb16 (r / 2 ^ n % 2 ^ npl y.2.2.2 n) (by omega) _ hcn
                        refine g_iast 189 O (((mw, msd, mn, mon, mhn, mrd, mtn, mad, mpn), (se, wo, jf, ow, oj, kf, ff, vf, cf, tf, pb), (fat, whl, nw, nwd, njn), (nI (NR y), so', vl2, upd jg2 k (((nI (r / 2 ^ n % 2 ^ npl y.2.2.2 n)) >>> ((nI (cn (fun j => y.2.2.2 (j + 1)) k)) &&& 31)) &&& 1)), tko, (sdn, hh_), (ik, kw, kh, kr, kt, kc, ko))) 16 k rfl (rfl) (by omega) (by decide) rfl dX6_lay_189 ?_
                        refine g_iload 190 O dX6_lay_190 1 rfl ?_
                        refine g_aload_n 192 O dX6_lay_192 rfl 7 rfl ?_
                        refine g_iload 193 O dX6_lay_193 0 rfl ?_
                        refine g_iload_n 195 O dX6_lay_195 rfl 9 rfl ?_
                        refine g_callV 196 O (na := 2) (av := [.int (nI k), .int p1]) (c_X6_joinAt l E a mw msd mn mon mhn mrd mtn mad mpn se wo jf ow oj kf ff vf cf tf pb fat whl nw nwd njn (nI (NR y)) so' vl2 (upd jg2 k (((nI (r / 2 ^ n % 2 ^ npl y.2.2.2 n)) >>> ((nI (cn (fun j => y.2.2.2 (j + 1)) k)) &&& 31)) &&& 1)) tko sdn hh_ ik kw kh kr kt kc ko (nI k) p1 k rfl (by omega)) kl_X6_117 km_X6_joinAt kv_X6_joinAt ki_X6 kc_X6_joinAt (by decide +kernel) rfl (Nat.le_of_ble_eq_true rfl) (Nat.le_of_ble_eq_true rfl) (fun _ h => h) 0 rfl rfl (fun s => s) (fun _ _ _ _ h => h) rfl (Nat.le_of_ble_eq_true rfl) dX6_lay_196 (fun v9 s9 hv9 => ?_)
                        obtain ⟨rfl, rfl⟩ := hv9
                        refine g_si (bi (y.2.2.2 (k + 1))) (hy.2.2 k hlt) ?_
                        refine g_iconst 199 O (v := 1) dX6_lay_199 (by decide) ?_
                        refine g_icmp_ne 200 O 207 dX6_lay_200 (by decide) (fun h200 => ?_) (fun h200 => ?_)
                        · -- taken
                          refine g_iconst 207 O (v := 0) dX6_lay_207 (by decide) ?_
                          refine g_iadd 208 O dX6_lay_208 ?_
                          refine g_si (nI (cn (fun j => y.2.2.2 (j + 1)) (k + 1))) (cn_f (p := fun j => y.2.2.2 (j + 1)) (bi_n1 h200)) ?_
                          refine g_istore 209 O (lv' := [(8, .int (nI (cn (fun j => y.2.2.2 (j + 1)) (k + 1)))), (9, .int (nI k)), (7, .int (nI (r / 2 ^ n % 2 ^ npl y.2.2.2 n))), (6, .int (nI (r % 2 ^ n))), (5, .int (nI r)), (4, .int (nI (2 ^ npl y.2.2.2 n))), (3, .int (nI (2 ^ n))), (0, .ref (a 0)), (1, .int (nI n)), (2, .int p1)]) dX6_lay_209 (by decide) rfl ?_
                          refine g_iinc 211 O (v := nI (k + 1)) (q := 1) (lv' := [(9, .int (nI (k + 1))), (8, .int (nI (cn (fun j => y.2.2.2 (j + 1)) (k + 1)))), (7, .int (nI (r / 2 ^ n % 2 ^ npl y.2.2.2 n))), (6, .int (nI (r % 2 ^ n))), (5, .int (nI r)), (4, .int (nI (2 ^ npl y.2.2.2 n))), (3, .int (nI (2 ^ n))), (0, .ref (a 0)), (1, .int (nI n)), (2, .int p1)]) dX6_lay_211 rfl (nI_1 k) (by decide) rfl ?_
                          refine g_goto 214 O 153 dX6_lay_214 (by decide) ?_
                          refine g_sub [0, 1, 2, 3, 4, 5, 6, 7, 8, 9] (lv' := [(9, .int (nI (k + 1))), (8, .int (nI (cn (fun j => y.2.2.2 (j + 1)) (k + 1)))), (7, .int (nI (r / 2 ^ n % 2 ^ npl y.2.2.2 n))), (6, .int (nI (r % 2 ^ n))), (5, .int (nI r)), (4, .int (nI (2 ^ npl y.2.2.2 n))), (3, .int (nI (2 ^ n))), (0, .ref (a 0)), (1, .int (nI n)), (2, .int p1)]) rfl ?_
                          exact ih153 (k + 1) (upd jg2 k (((nI (r / 2 ^ n % 2 ^ npl y.2.2.2 n)) >>> ((nI (cn (fun j => y.2.2.2 (j + 1)) k)) &&& 31)) &&& 1)) (by omega) (upd_ext hj hjk) (by omega)
                        · -- not taken
                          refine g_iconst 203 O (v := 1) dX6_lay_203 (by decide) ?_
                          refine g_goto 204 O 208 dX6_lay_204 (by decide) ?_
                          refine g_iadd 208 O dX6_lay_208 ?_
                          refine g_si (nI (cn (fun j => y.2.2.2 (j + 1)) (k + 1))) (cn_t (p := fun j => y.2.2.2 (j + 1)) (bi_1 h200)) ?_
                          refine g_istore 209 O (lv' := [(8, .int (nI (cn (fun j => y.2.2.2 (j + 1)) (k + 1)))), (9, .int (nI k)), (7, .int (nI (r / 2 ^ n % 2 ^ npl y.2.2.2 n))), (6, .int (nI (r % 2 ^ n))), (5, .int (nI r)), (4, .int (nI (2 ^ npl y.2.2.2 n))), (3, .int (nI (2 ^ n))), (0, .ref (a 0)), (1, .int (nI n)), (2, .int p1)]) dX6_lay_209 (by decide) rfl ?_
                          refine g_iinc 211 O (v := nI (k + 1)) (q := 1) (lv' := [(9, .int (nI (k + 1))), (8, .int (nI (cn (fun j => y.2.2.2 (j + 1)) (k + 1)))), (7, .int (nI (r / 2 ^ n % 2 ^ npl y.2.2.2 n))), (6, .int (nI (r % 2 ^ n))), (5, .int (nI r)), (4, .int (nI (2 ^ npl y.2.2.2 n))), (3, .int (nI (2 ^ n))), (0, .ref (a 0)), (1, .int (nI n)), (2, .int p1)]) dX6_lay_211 rfl (nI_1 k) (by decide) rfl ?_
                          refine g_goto 214 O 153 dX6_lay_214 (by decide) ?_
                          refine g_sub [0, 1, 2, 3, 4, 5, 6, 7, 8, 9] (lv' := [(9, .int (nI (k + 1))), (8, .int (nI (cn (fun j => y.2.2.2 (j + 1)) (k + 1)))), (7, .int (nI (r / 2 ^ n % 2 ^ npl y.2.2.2 n))), (6, .int (nI (r % 2 ^ n))), (5, .int (nI r)), (4, .int (nI (2 ^ npl y.2.2.2 n))), (3, .int (nI (2 ^ n))), (0, .ref (a 0)), (1, .int (nI n)), (2, .int p1)]) rfl ?_
                          exact ih153 (k + 1) (upd jg2 k (((nI (r / 2 ^ n % 2 ^ npl y.2.2.2 n)) >>> ((nI (cn (fun j => y.2.2.2 (j + 1)) k)) &&& 31)) &&& 1)) (by omega) (upd_ext hj hjk) (by omega)
                exact L153 _ 0 jg' (Nat.zero_le _) (fun i h => absurd h (Nat.not_lt_zero _)) (Nat.lt_succ_self _)
              · -- not taken
                have hlt : k < y.1 := by have := lt_of_nge (by omega) h68; omega
                refine g_aload_n 71 O dX6_lay_71 rfl 6 rfl ?_
                refine g_iload 72 O dX6_lay_72 0 rfl ?_
                refine g_iload_n 74 O dX6_lay_74 rfl 8 rfl ?_
                refine g_callV 75 O (na := 2) (av := [.int (nI k), .int p1]) (c_X6_wordAt l E a mw msd mn mon mhn mrd mtn mad mpn se wo jf ow oj kf ff vf cf tf pb fat whl nw nwd njn (nI (NR y)) so' vl2 jg' tko sdn hh_ ik kw kh kr kt kc ko (nI k) p1 k rfl (by omega)) kl_X6_127 km_X6_wordAt kv_X6_wordAt ki_X6 kc_X6_wordAt (by decide +kernel) rfl (Nat.le_of_ble_eq_true rfl) (Nat.le_of_ble_eq_true rfl) (fun _ h => h) 0 rfl rfl (fun s => s) (fun _ _ _ _ h => h) rfl (Nat.le_of_ble_eq_true rfl) dX6_lay_75 (fun v9 s9 hv9 => ?_)
                obtain ⟨rfl, rfl⟩ := hv9
                refine g_si (nI (2 * y.2.1 k + (y.2.2.1 k).toNat)) ((hy.2.1 k hlt).1) ?_
                refine g_iconst 78 O (v := 2) dX6_lay_78 (by decide) ?_
                refine g_idiv 79 O dX6_lay_79 (by decide) ?_
                refine g_si (nI (y.2.1 k)) ((wd2 _ (hy.2.1 k hlt).2 _).1) ?_
                refine g_istore 80 O (lv' := [(9, .int (nI (y.2.1 k))), (8, .int (nI k)), (7, .int (nI (r / 2 ^ n % 2 ^ npl y.2.2.2 n))), (6, .int (nI (r % 2 ^ n))), (5, .int (nI r)), (4, .int (nI (2 ^ npl y.2.2.2 n))), (3, .int (nI (2 ^ n))), (0, .ref (a 0)), (1, .int (nI n)), (2, .int p1)]) dX6_lay_80 (by decide) rfl ?_
                refine g_iload 82 O dX6_lay_82 3 rfl ?_
                refine g_iload 84 O dX6_lay_84 1 rfl ?_
                refine g_ishr 86 O dX6_lay_86 ?_
                refine g_iconst 87 O (v := 1) dX6_lay_87 (by decide) ?_
                refine g_iand 88 O dX6_lay_88 ?_
                refine g_si (bi ((r % 2 ^ n).testBit k)) (sb16 _ (by omega) _ (by omega)) ?_
                refine g_iconst 89 O (v := 1) dX6_lay_89 (by decide) ?_
                refine g_icmp_ne 90 O 103 dX6_lay_90 (by decide) (fun h90 => ?_) (fun h90 => ?_)
                · -- taken
                  refine g_iload 103 O dX6_lay_103 0 rfl ?_
                  refine g_callS 105 O (na := 1) (av := [.int (nI (y.2.1 k))]) (c_X6_worldsOf l E _ _ (nI (y.2.1 k)) (y.2.1 k) rfl (hy.2.1 k hlt).2) kl_X6_130 ks_X6_worldsOf ki_X6 kc_X6_worldsOf (by decide +kernel) rfl (Nat.le_of_ble_eq_true rfl) (Nat.le_of_ble_eq_true rfl) (fun _ h => h) (fun s => s) (fun _ _ _ _ h => h) rfl (Nat.le_of_ble_eq_true rfl) dX6_lay_105 (fun v9 s9 hv9 => ?_)
                  obtain ⟨rfl, rfl⟩ := hv9
                  refine g_lstore 108 O (lv' := [(10, .long (Wf (y.2.1 k))), (9, .int (nI (y.2.1 k))), (8, .int (nI k)), (7, .int (nI (r / 2 ^ n % 2 ^ npl y.2.2.2 n))), (6, .int (nI (r % 2 ^ n))), (5, .int (nI r)), (4, .int (nI (2 ^ npl y.2.2.2 n))), (3, .int (nI (2 ^ n))), (0, .ref (a 0)), (1, .int (nI n)), (2, .int p1)]) dX6_lay_108 (by decide) rfl ?_
                  refine g_aload_n 110 O dX6_lay_110 rfl 8 rfl ?_
                  refine g_get 111 O (v := .ref (a 15)) inX6 0 rfl rfl 27 (by decide) kf_X6_54 rfl dX6_lay_111 ?_
                  refine g_iload 114 O dX6_lay_114 2 rfl ?_
                  refine g_aload_n 116 O dX6_lay_116 rfl 8 rfl ?_
                  refine g_iload 117 O dX6_lay_117 2 rfl ?_
                  refine g_iload_n 119 O dX6_lay_119 rfl 10 rfl ?_
                  refine g_callV 120 O (na := 2) (av := [.int (nI k), .int p1]) (c_X6_wordAt l E a mw msd mn mon mhn mrd mtn mad mpn se wo jf ow oj kf ff vf cf tf pb fat whl nw nwd njn (nI (NR y)) so' vl2 jg' tko sdn hh_ ik kw kh kr kt kc ko (nI k) p1 k rfl (by omega)) kl_X6_127 km_X6_wordAt kv_X6_wordAt ki_X6 kc_X6_wordAt (by decide +kernel) rfl (Nat.le_of_ble_eq_true rfl) (Nat.le_of_ble_eq_true rfl) (fun _ h => h) 0 rfl rfl (fun s => s) (fun _ _ _ _ h => h) rfl (Nat.le_of_ble_eq_true rfl) dX6_lay_120 (fun v9 s9 hv9 => ?_)
                  obtain ⟨rfl, rfl⟩ := hv9
                  refine g_si (nI (2 * y.2.1 k + (y.2.2.1 k).toNat)) ((hy.2.1 k hlt).1) ?_
                  refine g_iconst 123 O (v := 2) dX6_lay_123 (by decide) ?_
                  refine g_irem 124 O dX6_lay_124 (by decide) ?_
                  have hx : wv z y.2.1 y.2.2.1 (r % 2 ^ n) k = (Wf (y.2.1 k)) ^^^ (if y.2.2.1 k = true then -1 else 0) := wv_in (b := false) (bi_n1 h90) rfl
                  refine g_si (bi (y.2.2.1 k)) (by rw [(wd2 _ (hy.2.1 k hlt).2 (y.2.2.1 k)).1]; exact (wd2 _ (hy.2.1 k hlt).2 (y.2.2.1 k)).2) ?_
                  refine g_iconst 125 O (v := 1) dX6_lay_125 (by decide) ?_
                  refine g_icmp_ne 126 O 138 dX6_lay_126 (by decide) (fun h126 => ?_) (fun h126 => ?_)
                  · -- taken
                    refine g_lload 138 O dX6_lay_138 0 rfl ?_
                    have hvk : wv z y.2.1 y.2.2.1 (r % 2 ^ n) k = (Wf (y.2.1 k)) := by rw [hx, bi_n1 h126]; exact Int64.xor_zero
                    refine g_last 140 O (((mw, msd, mn, mon, mhn, mrd, mtn, mad, mpn), (se, wo, jf, ow, oj, kf, ff, vf, cf, tf, pb), (fat, whl, nw, nwd, njn), (nI (NR y), so', vp_updL vl2 k (Wf (y.2.1 k)), jg'), tko, (sdn, hh_), (ik, kw, kh, kr, kt, kc, ko))) 15 k rfl (rfl) (by omega) (by decide) rfl dX6_lay_140 ?_
                    refine g_iinc 141 O (v := nI (k + 1)) (q := 2) (lv' := [(8, .int (nI (k + 1))), (10, .long (Wf (y.2.1 k))), (9, .int (nI (y.2.1 k))), (7, .int (nI (r / 2 ^ n % 2 ^ npl y.2.2.2 n))), (6, .int (nI (r % 2 ^ n))), (5, .int (nI r)), (4, .int (nI (2 ^ npl y.2.2.2 n))), (3, .int (nI (2 ^ n))), (0, .ref (a 0)), (1, .int (nI n)), (2, .int p1)]) dX6_lay_141 rfl (nI_1 k) (by decide) rfl ?_
                    refine g_goto 144 O 65 dX6_lay_144 (by decide) ?_
                    refine g_sub [0, 3, 4, 5, 6, 7, 8, 9, 10] (lv' := [(8, .int (nI (k + 1))), (7, .int (nI (r / 2 ^ n % 2 ^ npl y.2.2.2 n))), (6, .int (nI (r % 2 ^ n))), (5, .int (nI r)), (4, .int (nI (2 ^ npl y.2.2.2 n))), (3, .int (nI (2 ^ n))), (0, .ref (a 0)), (1, .int (nI n)), (2, .int p1)]) rfl ?_
                    exact ih65 (k + 1) (vp_updL vl2 k (Wf (y.2.1 k))) (by omega) (updL_ext hv hvk.symm) (by omega)
                  · -- not taken
                    refine g_lload 129 O dX6_lay_129 0 rfl ?_
                    refine g_ldc2 131 O (v := (-1)) dX6_lay_131 kk_X6_134 ?_
                    refine g_lxor 134 O dX6_lay_134 ?_
                    refine g_goto 135 O 140 dX6_lay_135 (by decide) ?_
                    have hvk : wv z y.2.1 y.2.2.1 (r % 2 ^ n) k = ((Wf (y.2.1 k)) ^^^ ((-1))) := by rw [hx, bi_1 h126]; rfl
                    refine g_last 140 O (((mw, msd, mn, mon, mhn, mrd, mtn, mad, mpn), (se, wo, jf, ow, oj, kf, ff, vf, cf, tf, pb), (fat, whl, nw, nwd, njn), (nI (NR y), so', vp_updL vl2 k ((Wf (y.2.1 k)) ^^^ ((-1))), jg'), tko, (sdn, hh_), (ik, kw, kh, kr, kt, kc, ko))) 15 k rfl (rfl) (by omega) (by decide) rfl dX6_lay_140 ?_
                    refine g_iinc 141 O (v := nI (k + 1)) (q := 2) (lv' := [(8, .int (nI (k + 1))), (10, .long (Wf (y.2.1 k))), (9, .int (nI (y.2.1 k))), (7, .int (nI (r / 2 ^ n % 2 ^ npl y.2.2.2 n))), (6, .int (nI (r % 2 ^ n))), (5, .int (nI r)), (4, .int (nI (2 ^ npl y.2.2.2 n))), (3, .int (nI (2 ^ n))), (0, .ref (a 0)), (1, .int (nI n)), (2, .int p1)]) dX6_lay_141 rfl (nI_1 k) (by decide) rfl ?_
                    refine g_goto 144 O 65 dX6_lay_144 (by decide) ?_
                    refine g_sub [0, 3, 4, 5, 6, 7, 8, 9, 10] (lv' := [(8, .int (nI (k + 1))), (7, .int (nI (r / 2 ^ n % 2 ^ npl y.2.2.2 n))), (6, .int (nI (r % 2 ^ n))), (5, .int (nI r)), (4, .int (nI (2 ^ npl y.2.2.2 n))), (3, .int (nI (2 ^ n))), (0, .ref (a 0)), (1, .int (nI n)), (2, .int p1)]) rfl ?_
                    exact ih65 (k + 1) (vp_updL vl2 k ((Wf (y.2.1 k)) ^^^ ((-1)))) (by omega) (updL_ext hv hvk.symm) (by omega)
                · -- not taken
                  refine g_aload_n 93 O dX6_lay_93 rfl 7 rfl ?_
                  refine g_get 94 O (v := .ref (a 1)) inX6 0 rfl rfl 2 (by decide) kf_X6_7 rfl dX6_lay_94 ?_
                  refine g_iload 97 O dX6_lay_97 0 rfl ?_
                  refine g_iald 99 O 1 ((y.2.1 k)) rfl (rfl) ((hy.2.1 k hlt).2) (by decide) dX6_lay_99 ?_
                  refine g_goto 100 O 105 dX6_lay_100 (by decide) ?_
                  refine g_si (nI (z (y.2.1 k))) ((hz _ (hy.2.1 k hlt).2).1) ?_
                  refine g_callS 105 O (na := 1) (av := [.int (nI (z (y.2.1 k)))]) (c_X6_worldsOf l E _ _ (nI (z (y.2.1 k))) (z (y.2.1 k)) rfl (hz _ (hy.2.1 k hlt).2).2) kl_X6_130 ks_X6_worldsOf ki_X6 kc_X6_worldsOf (by decide +kernel) rfl (Nat.le_of_ble_eq_true rfl) (Nat.le_of_ble_eq_true rfl) (fun _ h => h) (fun s => s) (fun _ _ _ _ h => h) rfl (Nat.le_of_ble_eq_true rfl) dX6_lay_105 (fun v9 s9 hv9 => ?_)
                  obtain ⟨rfl, rfl⟩ := hv9
                  refine g_lstore 108 O (lv' := [(10, .long (Wf (z (y.2.1 k)))), (9, .int (nI (y.2.1 k))), (8, .int (nI k)), (7, .int (nI (r / 2 ^ n % 2 ^ npl y.2.2.2 n))), (6, .int (nI (r % 2 ^ n))), (5, .int (nI r)), (4, .int (nI (2 ^ npl y.2.2.2 n))), (3, .int (nI (2 ^ n))), (0, .ref (a 0)), (1, .int (nI n)), (2, .int p1)]) dX6_lay_108 (by decide) rfl ?_
                  refine g_aload_n 110 O dX6_lay_110 rfl 8 rfl ?_
                  refine g_get 111 O (v := .ref (a 15)) inX6 0 rfl rfl 27 (by decide) kf_X6_54 rfl dX6_lay_111 ?_
                  refine g_iload 114 O dX6_lay_114 2 rfl ?_
                  refine g_aload_n 116 O dX6_lay_116 rfl 8 rfl ?_
                  refine g_iload 117 O dX6_lay_117 2 rfl ?_
                  refine g_iload_n 119 O dX6_lay_119 rfl 10 rfl ?_
                  refine g_callV 120 O (na := 2) (av := [.int (nI k), .int p1]) (c_X6_wordAt l E a mw msd mn mon mhn mrd mtn mad mpn se wo jf ow oj kf ff vf cf tf pb fat whl nw nwd njn (nI (NR y)) so' vl2 jg' tko sdn hh_ ik kw kh kr kt kc ko (nI k) p1 k rfl (by omega)) kl_X6_127 km_X6_wordAt kv_X6_wordAt ki_X6 kc_X6_wordAt (by decide +kernel) rfl (Nat.le_of_ble_eq_true rfl) (Nat.le_of_ble_eq_true rfl) (fun _ h => h) 0 rfl rfl (fun s => s) (fun _ _ _ _ h => h) rfl (Nat.le_of_ble_eq_true rfl) dX6_lay_120 (fun v9 s9 hv9 => ?_)
                  obtain ⟨rfl, rfl⟩ := hv9
                  refine g_si (nI (2 * y.2.1 k + (y.2.2.1 k).toNat)) ((hy.2.1 k hlt).1) ?_
                  refine g_iconst 123 O (v := 2) dX6_lay_123 (by decide) ?_
                  refine g_irem 124 O dX6_lay_124 (by decide) ?_
                  have hx : wv z y.2.1 y.2.2.1 (r % 2 ^ n) k = (Wf (z (y.2.1 k))) ^^^ (if y.2.2.1 k = true then -1 else 0) := wv_in (b := true) (bi_1 h90) rfl
                  refine g_si (bi (y.2.2.1 k)) (by rw [(wd2 _ (hy.2.1 k hlt).2 (y.2.2.1 k)).1]; exact (wd2 _ (hy.2.1 k hlt).2 (y.2.2.1 k)).2) ?_
                  refine g_iconst 125 O (v := 1) dX6_lay_125 (by decide) ?_
                  refine g_icmp_ne 126 O 138 dX6_lay_126 (by decide) (fun h126 => ?_) (fun h126 => ?_)
                  · -- taken
                    refine g_lload 138 O dX6_lay_138 0 rfl ?_
                    have hvk : wv z y.2.1 y.2.2.1 (r % 2 ^ n) k = (Wf (z (y.2.1 k))) := by rw [hx, bi_n1 h126]; exact Int64.xor_zero
                    refine g_last 140 O (((mw, msd, mn, mon, mhn, mrd, mtn, mad, mpn), (se, wo, jf, ow, oj, kf, ff, vf, cf, tf, pb), (fat, whl, nw, nwd, njn), (nI (NR y), so', vp_updL vl2 k (Wf (z (y.2.1 k))), jg'), tko, (sdn, hh_), (ik, kw, kh, kr, kt, kc, ko))) 15 k rfl (rfl) (by omega) (by decide) rfl dX6_lay_140 ?_
                    refine g_iinc 141 O (v := nI (k + 1)) (q := 2) (lv' := [(8, .int (nI (k + 1))), (10, .long (Wf (z (y.2.1 k)))), (9, .int (nI (y.2.1 k))), (7, .int (nI (r / 2 ^ n % 2 ^ npl y.2.2.2 n))), (6, .int (nI (r % 2 ^ n))), (5, .int (nI r)), (4, .int (nI (2 ^ npl y.2.2.2 n))), (3, .int (nI (2 ^ n))), (0, .ref (a 0)), (1, .int (nI n)), (2, .int p1)]) dX6_lay_141 rfl (nI_1 k) (by decide) rfl ?_
                    refine g_goto 144 O 65 dX6_lay_144 (by decide) ?_
                    refine g_sub [0, 3, 4, 5, 6, 7, 8, 9, 10] (lv' := [(8, .int (nI (k + 1))), (7, .int (nI (r / 2 ^ n % 2 ^ npl y.2.2.2 n))), (6, .int (nI (r % 2 ^ n))), (5, .int (nI r)), (4, .int (nI (2 ^ npl y.2.2.2 n))), (3, .int (nI (2 ^ n))), (0, .ref (a 0)), (1, .int (nI n)), (2, .int p1)]) rfl ?_
                    exact ih65 (k + 1) (vp_updL vl2 k (Wf (z (y.2.1 k)))) (by omega) (updL_ext hv hvk.symm) (by omega)
                  · -- not taken
                    refine g_lload 129 O dX6_lay_129 0 rfl ?_
                    refine g_ldc2 131 O (v := (-1)) dX6_lay_131 kk_X6_134 ?_
                    refine g_lxor 134 O dX6_lay_134 ?_
                    refine g_goto 135 O 140 dX6_lay_135 (by decide) ?_
                    have hvk : wv z y.2.1 y.2.2.1 (r % 2 ^ n) k = ((Wf (z (y.2.1 k))) ^^^ ((-1))) := by rw [hx, bi_1 h126]; rfl
                    refine g_last 140 O (((mw, msd, mn, mon, mhn, mrd, mtn, mad, mpn), (se, wo, jf, ow, oj, kf, ff, vf, cf, tf, pb), (fat, whl, nw, nwd, njn), (nI (NR y), so', vp_updL vl2 k ((Wf (z (y.2.1 k))) ^^^ ((-1))), jg'), tko, (sdn, hh_), (ik, kw, kh, kr, kt, kc, ko))) 15 k rfl (rfl) (by omega) (by decide) rfl dX6_lay_140 ?_
                    refine g_iinc 141 O (v := nI (k + 1)) (q := 2) (lv' := [(8, .int (nI (k + 1))), (10, .long (Wf (z (y.2.1 k)))), (9, .int (nI (y.2.1 k))), (7, .int (nI (r / 2 ^ n % 2 ^ npl y.2.2.2 n))), (6, .int (nI (r % 2 ^ n))), (5, .int (nI r)), (4, .int (nI (2 ^ npl y.2.2.2 n))), (3, .int (nI (2 ^ n))), (0, .ref (a 0)), (1, .int (nI n)), (2, .int p1)]) dX6_lay_141 rfl (nI_1 k) (by decide) rfl ?_
                    refine g_goto 144 O 65 dX6_lay_144 (by decide) ?_
                    refine g_sub [0, 3, 4, 5, 6, 7, 8, 9, 10] (lv' := [(8, .int (nI (k + 1))), (7, .int (nI (r / 2 ^ n % 2 ^ npl y.2.2.2 n))), (6, .int (nI (r % 2 ^ n))), (5, .int (nI r)), (4, .int (nI (2 ^ npl y.2.2.2 n))), (3, .int (nI (2 ^ n))), (0, .ref (a 0)), (1, .int (nI n)), (2, .int p1)]) rfl ?_
                    exact ih65 (k + 1) (vp_updL vl2 k ((Wf (z (y.2.1 k))) ^^^ ((-1)))) (by omega) (updL_ext hv hvk.symm) (by omega)
          exact L65 _ 0 vl' (Nat.zero_le _) (fun i h => absurd h (Nat.not_lt_zero _)) (Nat.lt_succ_self _)
    exact L38 _ 0 so vl jg (Nat.zero_le _) (fun i h => absurd h (Nat.not_lt_zero _)) (Nat.lt_succ_self _)
