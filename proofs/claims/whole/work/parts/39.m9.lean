set_option maxRecDepth 100000 in
set_option maxHeartbeats 4000000 in
theorem c_X6_fits (l : Launch) (E : Ev) (a : Nat → Nat) (mw msd mn mon mhn mrd mtn mad mpn : Int32) (se wo jf ow oj kf ff vf cf tf pb : Nat → Int32) (fat whl nw : Int32) (nwd njn : Nat → Int32) (rd : Int32) (so vl : Nat → Int64) (jg : Nat → Int32) (tko : Nat → Int32) (sdn hh_ : Int64) (ik kw kh kr kt : Int32) (kc ko : Nat → Int32) (p0 p1 : Int32) (wn : Nat) (rn sn0 : Int32) (adn pn : Nat) (pc : Nat → Int32) (z : Nat → Nat) (y o : Sy) (hr : Hr) (tl : Tl) (ib : Bool) (iw : Nat) (ir : Int32) (ih : Hr) (it : Tl) (hS : RMc mw msd mn mon mhn mrd mtn mad mpn se wo jf ow oj kf ff vf cf tf pb ik kw kh kr kt kc ko wn rn sn0 adn pn pc z y o hr tl ib iw ir ih it) : Ctr l yX6_fits cX6_fits 3 (some .int) 4 115 E (wM E a) [.ref (a 0), .int p0, .int p1] (((mw, msd, mn, mon, mhn, mrd, mtn, mad, mpn), (se, wo, jf, ow, oj, kf, ff, vf, cf, tf, pb), (fat, whl, nw, nwd, njn), (rd, so, vl, jg), tko, (sdn, hh_), (ik, kw, kh, kr, kt, kc, ko))) (pI (fun r x => r = A_fits z y hr tl p0 p1 ∧ RM x (((wn, rn, sn0, adn), (pn, pc), z, y, o, hr, tl, ib, iw, ir, ih, it)))) := by
  refine Ctr.of' (by decide +kernel) (Nat.le_of_ble_eq_true rfl) (fun X P0 hP0 O => ?_)
  refine g_sub [0, 1, 2] (lv' := [(0, .ref (a 0)), (1, .int p0), (2, .int p1)]) rfl ?_
  have hS9 := hS
  obtain ⟨⟨hwn, hwn0⟩, hrn, hsn, ⟨had, had0⟩, ⟨hpn, hpn0, hpb⟩, hz, ⟨hw, hy⟩, ⟨ho, hyo⟩, hh, ht, hik, hkp⟩ := hS
  refine g_aload_n 0 O dX6_fits_0 rfl 0 rfl ?_
  refine g_iload_n 1 O dX6_fits_1 rfl 1 rfl ?_
  refine g_callV 2 O (na := 1) (av := [.int p0]) (c_X6_isHearer l E a mw msd mn mon mhn mrd mtn mad mpn se wo jf ow oj kf ff vf cf tf pb fat whl nw nwd njn rd so vl jg tko sdn hh_ ik kw kh kr kt kc ko p0 hr hh) kl_X6_184 km_X6_isHearer kv_X6_isHearer ki_X6 kc_X6_isHearer (by decide +kernel) rfl (Nat.le_of_ble_eq_true rfl) (Nat.le_of_ble_eq_true rfl) (fun _ h => h) 0 rfl rfl (fun s => s) (fun _ _ _ _ h => h) rfl (Nat.le_of_ble_eq_true rfl) dX6_fits_2 (fun v9 s9 hv9 => ?_)
  obtain ⟨rfl, rfl⟩ := hv9
  refine g_if_ne 5 O 11 dX6_fits_5 (by decide) (fun h5 => ?_) (fun h5 => ?_)
  · -- taken
    have hh4 := hh.2.1
    obtain ⟨p, hp0, hp, hpc⟩ := rng_of (by omega) (ite_t h5)
    refine g_iload_n 11 O dX6_fits_11 rfl 2 rfl ?_
    refine g_iconst 12 O (v := 0) dX6_fits_12 (by decide) ?_
    refine g_iconst 13 O (v := 1) dX6_fits_13 (by decide) ?_
    refine g_callS 14 O (na := 3) (av := [.int p1, .int 0, .int 1]) (c_X6_within l E _ _ p1 0 1) kl_X6_69 ks_X6_within ki_X6 kc_X6_within (by decide +kernel) rfl (Nat.le_of_ble_eq_true rfl) (Nat.le_of_ble_eq_true rfl) (fun _ h => h) (fun s => s) (fun _ _ _ _ h => h) rfl (Nat.le_of_ble_eq_true rfl) dX6_fits_14 (fun v9 s9 hv9 => ?_)
    obtain ⟨rfl, rfl⟩ := hv9
    refine g_if_ne 17 O 23 dX6_fits_17 (by decide) (fun h17 => ?_) (fun h17 => ?_)
    · -- taken
      refine g_aload_n 23 O dX6_fits_23 rfl 0 rfl ?_
      refine g_get 24 O (v := .int mn) inX6 0 rfl rfl 3 (by decide) kf_X6_97 rfl dX6_fits_24 ?_
      refine g_if_eq 27 O 37 dX6_fits_27 (by decide) (fun h27 => ?_) (fun h27 => ?_)
      · -- taken
        have y0 : y.1 = 0 := m0 (by have := hy.1; omega) (hw ▸ h27)
        refine g_bipush 37 O (v := (-103)) dX6_fits_37 (by decide) ?_
        exact g_iret 39 O dX6_fits_39 (by rw [hP0, A_fits, if_pos (ite_t h5), if_pos (ite_t h17), if_pos (Or.inl y0)]; exact ⟨_, rfl, rfl, hS9⟩)
      · -- not taken
        have y0 : ¬ y.1 = 0 := n0 (hw ▸ h27)
        refine g_aload_n 30 O dX6_fits_30 rfl 0 rfl ?_
        refine g_get 31 O (v := .int mtn) inX6 0 rfl rfl 15 (by decide) kf_X6_226 rfl dX6_fits_31 ?_
        refine g_if_ne 34 O 40 dX6_fits_34 (by decide) (fun h34 => ?_) (fun h34 => ?_)
        · -- taken
          have t0 : ¬ tl.1 = 0 := n0 (ht.1 ▸ h34)
          refine g_aload_n 40 O dX6_fits_40 rfl 0 rfl ?_
          refine g_aload_n 41 O dX6_fits_41 rfl 0 rfl ?_
          refine g_get 42 O (v := .int mn) inX6 0 rfl rfl 3 (by decide) kf_X6_97 rfl dX6_fits_42 ?_
          refine g_iconst 45 O (v := 0) dX6_fits_45 (by decide) ?_
          refine g_callV 46 O (na := 2) (av := [.int mn, .int 0]) (c_X6_lay l E a mw msd mn mon mhn mrd mtn mad mpn se wo jf ow oj kf ff vf cf tf pb fat whl nw nwd njn rd so vl jg tko sdn hh_ ik kw kh kr kt kc ko mn 0 y z y.1 hw rfl (YM0 hy) hz) kl_X6_106 km_X6_lay kv_X6_lay ki_X6 kc_X6_lay (by decide +kernel) rfl (Nat.le_of_ble_eq_true rfl) (Nat.le_of_ble_eq_true rfl) (fun _ h => h) 0 rfl rfl (fun s => s) (fun _ _ _ _ h => h) rfl (Nat.le_of_ble_eq_true rfl) dX6_fits_46 (fun v9 s9 hv9 => ?_)
          obtain ⟨rfl, so', vl', jg', rfl, hso⟩ := hv9
          refine g_aload_n 49 O dX6_fits_49 rfl 0 rfl ?_
          refine g_iload_n 50 O dX6_fits_50 rfl 1 rfl ?_
          refine g_iload_n 51 O dX6_fits_51 rfl 2 rfl ?_
          refine g_callV 52 O (na := 2) (av := [.int p0, .int p1]) (c_X6_fitsNow l E a mw msd mn mon mhn mrd mtn mad mpn se wo jf ow oj kf ff vf cf tf pb fat whl nw nwd njn (nI (NR y)) so' vl' jg' tko sdn hh_ ik kw kh kr kt kc ko p0 p1 y z hy.1 rfl hso hr hh p hp hp0 tl ht) kl_X6_229 km_X6_fitsNow kv_X6_fitsNow ki_X6 kc_X6_fitsNow (by decide +kernel) rfl (Nat.le_of_ble_eq_true rfl) (Nat.le_of_ble_eq_true rfl) (fun _ h => h) 0 rfl rfl (fun s => s) (fun _ _ _ _ h => h) rfl (Nat.le_of_ble_eq_true rfl) dX6_fits_52 (fun v9 s9 hv9 => ?_)
          obtain ⟨rfl, rfl⟩ := hv9
          exact g_iret 55 O dX6_fits_55 (by rw [hP0, A_fits, if_pos (ite_t h5), if_pos (ite_t h17), if_neg (fun q => q.elim y0 t0), hpc]; exact ⟨_, rfl, rfl, hS9⟩)
        · -- not taken
          have t0 : tl.1 = 0 := m0 (by have := ht.2.1; omega) (ht.1 ▸ h34)
          refine g_bipush 37 O (v := (-103)) dX6_fits_37 (by decide) ?_
          exact g_iret 39 O dX6_fits_39 (by rw [hP0, A_fits, if_pos (ite_t h5), if_pos (ite_t h17), if_pos (Or.inr t0)]; exact ⟨_, rfl, rfl, hS9⟩)
    · -- not taken
      refine g_bipush 20 O (v := (-102)) dX6_fits_20 (by decide) ?_
      exact g_iret 22 O dX6_fits_22 (by rw [hP0, A_fits, if_pos (ite_t h5), if_neg (ite_f h17)]; exact ⟨_, rfl, rfl, hS9⟩)
  · -- not taken
    refine g_bipush 8 O (v := (-101)) dX6_fits_8 (by decide) ?_
    exact g_iret 10 O dX6_fits_10 (by rw [hP0, A_fits, if_neg (ite_f h5)]; exact ⟨_, rfl, rfl, hS9⟩)

set_option maxRecDepth 100000 in
set_option maxHeartbeats 4000000 in
theorem c_X6_times (l : Launch) (E : Ev) (a : Nat → Nat) (mw msd mn mon mhn mrd mtn mad mpn : Int32) (se wo jf ow oj kf ff vf cf tf pb : Nat → Int32) (fat whl nw : Int32) (nwd njn : Nat → Int32) (rd : Int32) (so vl : Nat → Int64) (jg : Nat → Int32) (tko : Nat → Int32) (sdn hh_ : Int64) (ik kw kh kr kt : Int32) (kc ko : Nat → Int32) (p0 p1 p2 : Int32) (wn : Nat) (rn sn0 : Int32) (adn pn : Nat) (pc : Nat → Int32) (z : Nat → Nat) (y o : Sy) (hr : Hr) (tl : Tl) (ib : Bool) (iw : Nat) (ir : Int32) (ih : Hr) (it : Tl) (hS : RMc mw msd mn mon mhn mrd mtn mad mpn se wo jf ow oj kf ff vf cf tf pb ik kw kh kr kt kc ko wn rn sn0 adn pn pc z y o hr tl ib iw ir ih it) : Ctr l yX6_times cX6_times 4 (some .int) 5 143 E (wM E a) [.ref (a 0), .int p0, .int p1, .int p2] (((mw, msd, mn, mon, mhn, mrd, mtn, mad, mpn), (se, wo, jf, ow, oj, kf, ff, vf, cf, tf, pb), (fat, whl, nw, nwd, njn), (rd, so, vl, jg), tko, (sdn, hh_), (ik, kw, kh, kr, kt, kc, ko))) (pI (fun r x => r = A_times z y hr wn p0 p1 p2 ∧ RM x (((wn, rn, sn0, adn), (pn, pc), z, y, o, hr, tl, ib, iw, ir, ih, it)))) := by
  refine Ctr.of' (by decide +kernel) (Nat.le_of_ble_eq_true rfl) (fun X P0 hP0 O => ?_)
  refine g_sub [0, 1, 2, 3] (lv' := [(0, .ref (a 0)), (1, .int p0), (2, .int p1), (3, .int p2)]) rfl ?_
  have hS9 := hS
  obtain ⟨⟨hwn, hwn0⟩, hrn, hsn, ⟨had, had0⟩, ⟨hpn, hpn0, hpb⟩, hz, ⟨hw, hy⟩, ⟨ho, hyo⟩, hh, ht, hik, hkp⟩ := hS
  refine g_iload_n 0 O dX6_times_0 rfl 1 rfl ?_
  refine g_iconst 1 O (v := 1) dX6_times_1 (by decide) ?_
  refine g_bipush 2 O (v := 60) dX6_times_2 (by decide) ?_
  refine g_callS 4 O (na := 3) (av := [.int p0, .int 1, .int 60]) (c_X6_within l E _ _ p0 1 60) kl_X6_69 ks_X6_within ki_X6 kc_X6_within (by decide +kernel) rfl (Nat.le_of_ble_eq_true rfl) (Nat.le_of_ble_eq_true rfl) (fun _ h => h) (fun s => s) (fun _ _ _ _ h => h) rfl (Nat.le_of_ble_eq_true rfl) dX6_times_4 (fun v9 s9 hv9 => ?_)
  obtain ⟨rfl, rfl⟩ := hv9
  refine g_if_eq 7 O 23 dX6_times_7 (by decide) (fun h7 => ?_) (fun h7 => ?_)
  · -- taken
    refine g_bipush 23 O (v := (-102)) dX6_times_23 (by decide) ?_
    exact g_iret 25 O dX6_times_25 (by rw [hP0, A_times, if_neg (fun q => ite_f h7 q.1)]; exact ⟨_, rfl, rfl, hS9⟩)
  · -- not taken
    refine g_iload_n 10 O dX6_times_10 rfl 2 rfl ?_
    refine g_if_lt 11 O 23 dX6_times_11 (by decide) (fun h11 => ?_) (fun h11 => ?_)
    · -- taken
      refine g_bipush 23 O (v := (-102)) dX6_times_23 (by decide) ?_
      exact g_iret 25 O dX6_times_25 (by rw [hP0, A_times, if_neg (fun q => absurd q.2.1 (Int32.not_le.mpr h11))]; exact ⟨_, rfl, rfl, hS9⟩)
    · -- not taken
      refine g_iload_n 14 O dX6_times_14 rfl 3 rfl ?_
      refine g_iconst 15 O (v := 0) dX6_times_15 (by decide) ?_
      refine g_iconst 16 O (v := 2) dX6_times_16 (by decide) ?_
      refine g_callS 17 O (na := 3) (av := [.int p2, .int 0, .int 2]) (c_X6_within l E _ _ p2 0 2) kl_X6_69 ks_X6_within ki_X6 kc_X6_within (by decide +kernel) rfl (Nat.le_of_ble_eq_true rfl) (Nat.le_of_ble_eq_true rfl) (fun _ h => h) (fun s => s) (fun _ _ _ _ h => h) rfl (Nat.le_of_ble_eq_true rfl) dX6_times_17 (fun v9 s9 hv9 => ?_)
      obtain ⟨rfl, rfl⟩ := hv9
      refine g_if_ne 20 O 26 dX6_times_20 (by decide) (fun h20 => ?_) (fun h20 => ?_)
      · -- taken
        obtain ⟨tn, htn, hp0, htc⟩ := rng_le (n := 60) (by decide) ⟨Int32.le_trans (by decide) (ite_t h7).1, (ite_t h7).2⟩
        obtain ⟨s, hs, hp1⟩ := nI_of (x := p1) h11
        have hsc : p1.toNatClampNeg = s := by rw [hp1]; exact nI_clamp hs
        refine g_aload_n 26 O dX6_times_26 rfl 0 rfl ?_
        refine g_get 27 O (v := .int mn) inX6 0 rfl rfl 3 (by decide) kf_X6_97 rfl dX6_times_27 ?_
        refine g_if_ne 30 O 38 dX6_times_30 (by decide) (fun h30 => ?_) (fun h30 => ?_)
        · -- taken
          have y0 : ¬ y.1 = 0 := n0 (hw ▸ h30)
          refine g_aload_n 38 O dX6_times_38 rfl 0 rfl ?_
          refine g_iload_n 39 O dX6_times_39 rfl 1 rfl ?_
          refine g_iload_n 40 O dX6_times_40 rfl 2 rfl ?_
          refine g_iload_n 41 O dX6_times_41 rfl 3 rfl ?_
          refine g_callV 42 O (na := 3) (av := [.int p0, .int p1, .int p2]) (c_X6_timesNow l E a mw msd mn mon mhn mrd mtn mad mpn se wo jf ow oj kf ff vf cf tf pb fat whl nw nwd njn rd so vl jg tko sdn hh_ ik kw kh kr kt kc ko p0 p1 p2 y z hw hy hz hr hh y0 wn hwn hwn0 tn s hp0 htn hp1 (by omega)) kl_X6_247 km_X6_timesNow kv_X6_timesNow ki_X6 kc_X6_timesNow (by decide +kernel) rfl (Nat.le_of_ble_eq_true rfl) (Nat.le_of_ble_eq_true rfl) (fun _ h => h) 0 rfl rfl (fun s => s) (fun _ _ _ _ h => h) rfl (Nat.le_of_ble_eq_true rfl) dX6_times_42 (fun v9 s9 hv9 => ?_)
          obtain ⟨r9, rfl, rfl, so', vl', jg', tko', sd', rfl⟩ := hv9
          exact g_iret 45 O dX6_times_45 (by rw [hP0, A_times, if_pos ⟨ite_t h7, Int32.not_lt.mp h11, ite_t h20⟩, if_neg y0, htc, hsc]; exact ⟨_, rfl, rfl, hS9⟩)
        · -- not taken
          have y0 : y.1 = 0 := m0 (by have := hy.1; omega) (hw ▸ h30)
          refine g_bipush 33 O (v := (-103)) dX6_times_33 (by decide) ?_
          refine g_goto 35 O 45 dX6_times_35 (by decide) ?_
          exact g_iret 45 O dX6_times_45 (by rw [hP0, A_times, if_pos ⟨ite_t h7, Int32.not_lt.mp h11, ite_t h20⟩, if_pos y0]; exact ⟨_, rfl, rfl, hS9⟩)
      · -- not taken
        refine g_bipush 23 O (v := (-102)) dX6_times_23 (by decide) ?_
        exact g_iret 25 O dX6_times_25 (by rw [hP0, A_times, if_neg (fun q => ite_f h20 q.2.2)]; exact ⟨_, rfl, rfl, hS9⟩)

theorem KM_im {mw mhn mrd mtn : Int32} {kf ff vf cf tf kc ko : Nat → Int32} {wn : Nat} {rn : Int32} {hr : Hr} {tl : Tl} (hw : mw = nI wn ∧ wn < 64) (hrn : mrd = rn) (hh : HrW (mhn, kf, ff, vf, cf) hr) (ht : TlW (mtn, tf) tl) (hc : ∀ i, i < 4 → kc i = cf i) (ho : ∀ i, i < 6 → ko i = tf i) : KM mw mhn mrd mtn kc ko hr wn rn hr tl :=
  ⟨hw, hrn, ⟨hh.1, Nat.le_refl _, fun k hk => ⟨⟨rfl, rfl, rfl⟩, by rw [hc k (by have := hh.2.1; omega)]; exact (hh.2.2 k hk).2.2.2⟩⟩, ⟨ht.1, ht.2.1, fun k hk => by rw [ho k (by have := ht.2.1; omega)]; exact ht.2.2 k hk⟩⟩
theorem KM_h0 {mhn kw kh kr kt : Int32} {kf ff vf cf kc ko cf1 : Nat → Int32} {hr : Hr} {iw : Nat} {ir : Int32} {ih : Hr} {it : Tl} (hh : HrW (mhn, kf, ff, vf, cf) hr) (h : KM kw kh kr kt kc ko hr iw ir ih it) (hc : ∀ i, i < 4 → cf1 i = kc i) : HrW (kh, kf, ff, vf, cf1) ih := by
  obtain ⟨-, -, ⟨h1, h2, h3⟩, -⟩ := h
  have h4 := hh.2.1
  refine ⟨h1, by omega, fun k hk => ?_⟩
  obtain ⟨⟨a1, a2, a3⟩, a4⟩ := h3 k hk
  obtain ⟨b1, b2, b3, -⟩ := hh.2.2 k (by omega)
  exact ⟨by rw [a1]; exact b1, by rw [a2]; exact b2, by rw [a3]; exact b3, by show cf1 k = _; rw [hc k (by omega)]; exact a4⟩
theorem KM_t0 {kw kh kr kt : Int32} {kc ko tf1 : Nat → Int32} {hr : Hr} {iw : Nat} {ir : Int32} {ih : Hr} {it : Tl} (h : KM kw kh kr kt kc ko hr iw ir ih it) (hc : ∀ i, i < 6 → tf1 i = ko i) : TlW (kt, tf1) it := by
  obtain ⟨-, -, -, h1, h2, h3⟩ := h
  exact ⟨h1, h2, fun k hk => by show tf1 k = _ ∧ _; rw [hc k (by omega)]; exact h3 k hk⟩
theorem KM_s {kw kh kr kt : Int32} {kc ko : Nat → Int32} {hr : Hr} {iw : Nat} {ir : Int32} {ih : Hr} {it : Tl} (h : KM kw kh kr kt kc ko hr iw ir ih it) : KM kw kh kr kt kc ko ih iw ir ih it := by
  obtain ⟨a, b, ⟨c1, c2, c3⟩, d⟩ := h
  exact ⟨a, b, ⟨c1, Nat.le_refl _, fun k hk => ⟨⟨rfl, rfl, rfl⟩, (c3 k hk).2⟩⟩, d⟩

set_option maxRecDepth 100000 in
set_option maxHeartbeats 4000000 in
theorem c_X6_image (l : Launch) (E : Ev) (a : Nat → Nat) (mw msd mn mon mhn mrd mtn mad mpn : Int32) (se wo jf ow oj kf ff vf cf tf pb : Nat → Int32) (fat whl nw : Int32) (nwd njn : Nat → Int32) (rd : Int32) (so vl : Nat → Int64) (jg : Nat → Int32) (tko : Nat → Int32) (sdn hh_ : Int64) (ik kw kh kr kt : Int32) (kc ko : Nat → Int32) (wn : Nat) (rn sn0 : Int32) (adn pn : Nat) (pc : Nat → Int32) (z : Nat → Nat) (y o : Sy) (hr : Hr) (tl : Tl) (ib : Bool) (iw : Nat) (ir : Int32) (ih : Hr) (it : Tl) (hS : RMc mw msd mn mon mhn mrd mtn mad mpn se wo jf ow oj kf ff vf cf tf pb ik kw kh kr kt kc ko wn rn sn0 adn pn pc z y o hr tl ib iw ir ih it) : Ctr l yX6_image cX6_image 2 (some .int) 0 0 E (wM E a) [.ref (a 0)] (((mw, msd, mn, mon, mhn, mrd, mtn, mad, mpn), (se, wo, jf, ow, oj, kf, ff, vf, cf, tf, pb), (fat, whl, nw, nwd, njn), (rd, so, vl, jg), tko, (sdn, hh_), (ik, kw, kh, kr, kt, kc, ko))) (pI (fun r x => r = nI wn ∧ RM x (NS_image ((wn, rn, sn0, adn), (pn, pc), z, y, o, hr, tl, ib, iw, ir, ih, it)))) := by
  refine Ctr.of' (by decide +kernel) (Nat.le_of_ble_eq_true rfl) (fun X P0 hP0 O => ?_)
  refine g_sub [0] (lv' := [(0, .ref (a 0))]) rfl ?_
  have hS9 := hS
  obtain ⟨⟨hwn, hwn0⟩, hrn, hsn, ⟨had, had0⟩, ⟨hpn, hpn0, hpb⟩, hz, ⟨hw, hy⟩, ⟨ho, hyo⟩, hh, ht, hik, hkp⟩ := hS
  refine g_aload_n 0 O dX6_image_0 rfl 0 rfl ?_
  refine g_iconst 1 O (v := 1) dX6_image_1 (by decide) ?_
  refine g_put 2 O inX6 tyX6_ok nmX6 (((mw, msd, mn, mon, mhn, mrd, mtn, mad, mpn), (se, wo, jf, ow, oj, kf, ff, vf, cf, tf, pb), (fat, whl, nw, nwd, njn), (rd, so, vl, jg), tko, (sdn, hh_), (1, kw, kh, kr, kt, kc, ko))) 0 rfl rfl 31 (by decide) kf_X6_250 rfl (rfl) (rfl) (Nat.le_of_ble_eq_true rfl) rfl dX6_image_2 ?_
  refine g_aload_n 5 O dX6_image_5 rfl 0 rfl ?_
  refine g_aload_n 6 O dX6_image_6 rfl 0 rfl ?_
  refine g_get 7 O (v := .int mw) inX6 0 rfl rfl 0 (by decide) kf_X6_162 rfl dX6_image_7 ?_
  refine g_put 10 O inX6 tyX6_ok nmX6 (((mw, msd, mn, mon, mhn, mrd, mtn, mad, mpn), (se, wo, jf, ow, oj, kf, ff, vf, cf, tf, pb), (fat, whl, nw, nwd, njn), (rd, so, vl, jg), tko, (sdn, hh_), (1, mw, kh, kr, kt, kc, ko))) 0 rfl rfl 32 (by decide) kf_X6_253 rfl (rfl) (rfl) (Nat.le_of_ble_eq_true rfl) rfl dX6_image_10 ?_
  refine g_aload_n 13 O dX6_image_13 rfl 0 rfl ?_
  refine g_aload_n 14 O dX6_image_14 rfl 0 rfl ?_
  refine g_get 15 O (v := .int mhn) inX6 0 rfl rfl 9 (by decide) kf_X6_175 rfl dX6_image_15 ?_
  refine g_put 18 O inX6 tyX6_ok nmX6 (((mw, msd, mn, mon, mhn, mrd, mtn, mad, mpn), (se, wo, jf, ow, oj, kf, ff, vf, cf, tf, pb), (fat, whl, nw, nwd, njn), (rd, so, vl, jg), tko, (sdn, hh_), (1, mw, mhn, kr, kt, kc, ko))) 0 rfl rfl 33 (by decide) kf_X6_256 rfl (rfl) (rfl) (Nat.le_of_ble_eq_true rfl) rfl dX6_image_18 ?_
  refine g_aload_n 21 O dX6_image_21 rfl 0 rfl ?_
  refine g_aload_n 22 O dX6_image_22 rfl 0 rfl ?_
  refine g_get 23 O (v := .int mrd) inX6 0 rfl rfl 14 (by decide) kf_X6_197 rfl dX6_image_23 ?_
  refine g_put 26 O inX6 tyX6_ok nmX6 (((mw, msd, mn, mon, mhn, mrd, mtn, mad, mpn), (se, wo, jf, ow, oj, kf, ff, vf, cf, tf, pb), (fat, whl, nw, nwd, njn), (rd, so, vl, jg), tko, (sdn, hh_), (1, mw, mhn, mrd, kt, kc, ko))) 0 rfl rfl 34 (by decide) kf_X6_259 rfl (rfl) (rfl) (Nat.le_of_ble_eq_true rfl) rfl dX6_image_26 ?_
  refine g_aload_n 29 O dX6_image_29 rfl 0 rfl ?_
  refine g_aload_n 30 O dX6_image_30 rfl 0 rfl ?_
  refine g_get 31 O (v := .int mtn) inX6 0 rfl rfl 15 (by decide) kf_X6_226 rfl dX6_image_31 ?_
  refine g_put 34 O inX6 tyX6_ok nmX6 (((mw, msd, mn, mon, mhn, mrd, mtn, mad, mpn), (se, wo, jf, ow, oj, kf, ff, vf, cf, tf, pb), (fat, whl, nw, nwd, njn), (rd, so, vl, jg), tko, (sdn, hh_), (1, mw, mhn, mrd, mtn, kc, ko))) 0 rfl rfl 35 (by decide) kf_X6_262 rfl (rfl) (rfl) (Nat.le_of_ble_eq_true rfl) rfl dX6_image_34 ?_
  refine g_iconst 37 O (v := 0) dX6_image_37 (by decide) ?_
  refine g_istore_n 38 O (lv' := [(1, .int 0), (0, .ref (a 0))]) dX6_image_38 rfl (by decide) rfl ?_
  refine g_sub [0, 1] (lv' := [(1, .int 0), (0, .ref (a 0))]) rfl ?_
  have L39 : ∀ (fuel : Nat) (k : Nat) (kc1 : Nat → Int32) (hk : k ≤ 4) (hc1 : ∀ i, i < k → kc1 i = cf i), 4 - k < fuel → G l E (wM E a) P0 X 2 (((mw, msd, mn, mon, mhn, mrd, mtn, mad, mpn), (se, wo, jf, ow, oj, kf, ff, vf, cf, tf, pb), (fat, whl, nw, nwd, njn), (rd, so, vl, jg), tko, (sdn, hh_), (1, mw, mhn, mrd, mtn, kc1, ko))) 39 [(1, .int (nI k)), (0, .ref (a 0))] [] := by
    intro fuel
    induction fuel with
    | zero => intro k kc1 hk hc1 hfu; exact absurd hfu (Nat.not_lt_zero _)
    | succ fuel ih39 =>
      intro k kc1 hk hc1 hfu
      refine g_iload_n 39 O dX6_image_39 rfl 0 rfl ?_
      refine g_iconst 40 O (v := 4) dX6_image_40 (by decide) ?_
      refine g_icmp_ge 41 O 62 dX6_image_41 (by decide) (fun h41 => ?_) (fun h41 => ?_)
      · -- taken
        have e : k = 4 := by have := ge_of_le (n := 4) (by omega) (by decide) h41; omega
        subst e
        refine g_iconst 62 O (v := 0) dX6_image_62 (by decide) ?_
        refine g_istore_n 63 O (lv' := [(1, .int 0), (0, .ref (a 0))]) dX6_image_63 rfl (by decide) rfl ?_
        refine g_sub [0, 1] (lv' := [(1, .int 0), (0, .ref (a 0))]) rfl ?_
        have L64 : ∀ (fuel : Nat) (k : Nat) (ko1 : Nat → Int32) (hk : k ≤ 6) (ho1 : ∀ i, i < k → ko1 i = tf i), 6 - k < fuel → G l E (wM E a) P0 X 2 (((mw, msd, mn, mon, mhn, mrd, mtn, mad, mpn), (se, wo, jf, ow, oj, kf, ff, vf, cf, tf, pb), (fat, whl, nw, nwd, njn), (rd, so, vl, jg), tko, (sdn, hh_), (1, mw, mhn, mrd, mtn, kc1, ko1))) 64 [(1, .int (nI k)), (0, .ref (a 0))] [] := by
          intro fuel
          induction fuel with
          | zero => intro k ko1 hk ho1 hfu; exact absurd hfu (Nat.not_lt_zero _)
          | succ fuel ih64 =>
            intro k ko1 hk ho1 hfu
            refine g_iload_n 64 O dX6_image_64 rfl 0 rfl ?_
            refine g_bipush 65 O (v := 6) dX6_image_65 (by decide) ?_
            refine g_icmp_ge 67 O 88 dX6_image_67 (by decide) (fun h67 => ?_) (fun h67 => ?_)
            · -- taken
              have e : k = 6 := by have := ge_of_le (n := 6) (by omega) (by decide) h67; omega
              subst e
              refine g_aload_n 88 O dX6_image_88 rfl 1 rfl ?_
              refine g_get 89 O (v := .int mw) inX6 0 rfl rfl 0 (by decide) kf_X6_162 rfl dX6_image_89 ?_
              refine g_si (nI wn) (hwn) ?_
              exact g_iret 92 O dX6_image_92 (by rw [hP0]; exact ⟨_, rfl, rfl, ⟨⟨hwn, hwn0⟩, hrn, hsn, ⟨had, had0⟩, ⟨hpn, hpn0, hpb⟩, hz, ⟨hw, hy⟩, ⟨ho, hyo⟩, hh, ht, rfl, fun _ => KM_im ⟨hwn, hwn0⟩ hrn hh ht hc1 ho1⟩⟩)
            · -- not taken
              have hlt : k < 6 := lt_of_nge (n := 6) (by omega) h67
              refine g_aload_n 70 O dX6_image_70 rfl 1 rfl ?_
              refine g_get 71 O (v := .ref (a 19)) inX6 0 rfl rfl 37 (by decide) kf_X6_66 rfl dX6_image_71 ?_
              refine g_iload_n 74 O dX6_image_74 rfl 0 rfl ?_
              refine g_aload_n 75 O dX6_image_75 rfl 1 rfl ?_
              refine g_get 76 O (v := .ref (a 10)) inX6 0 rfl rfl 16 (by decide) kf_X6_37 rfl dX6_image_76 ?_
              refine g_iload_n 79 O dX6_image_79 rfl 0 rfl ?_
              refine g_iald 80 O 10 k rfl (rfl) (by omega) (by decide) dX6_image_80 ?_
              refine g_iast 81 O (((mw, msd, mn, mon, mhn, mrd, mtn, mad, mpn), (se, wo, jf, ow, oj, kf, ff, vf, cf, tf, pb), (fat, whl, nw, nwd, njn), (rd, so, vl, jg), tko, (sdn, hh_), (1, mw, mhn, mrd, mtn, kc1, upd ko1 k (tf k)))) 19 k rfl (rfl) (by omega) (by decide) rfl dX6_image_81 ?_
              refine g_iinc 82 O (v := nI (k + 1)) (q := 0) (lv' := [(1, .int (nI (k + 1))), (0, .ref (a 0))]) dX6_image_82 rfl (nI_1 k) (by decide) rfl ?_
              refine g_goto 85 O 64 dX6_image_85 (by decide) ?_
              refine g_sub [0, 1] (lv' := [(1, .int (nI (k + 1))), (0, .ref (a 0))]) rfl ?_
              exact ih64 (k + 1) (upd ko1 k (tf k)) (by omega) (upd_ext ho1 rfl) (by omega)
        exact L64 _ 0 ko (Nat.zero_le _) (fun i h => absurd h (Nat.not_lt_zero _)) (Nat.lt_succ_self _)
      · -- not taken
        have hlt : k < 4 := lt_of_nge (n := 4) (by omega) h41
        refine g_aload_n 44 O dX6_image_44 rfl 1 rfl ?_
        refine g_get 45 O (v := .ref (a 18)) inX6 0 rfl rfl 36 (by decide) kf_X6_63 rfl dX6_image_45 ?_
        refine g_iload_n 48 O dX6_image_48 rfl 0 rfl ?_
        refine g_aload_n 49 O dX6_image_49 rfl 1 rfl ?_
        refine g_get 50 O (v := .ref (a 9)) inX6 0 rfl rfl 13 (by decide) kf_X6_34 rfl dX6_image_50 ?_
        refine g_iload_n 53 O dX6_image_53 rfl 0 rfl ?_
        refine g_iald 54 O 9 k rfl (rfl) (by omega) (by decide) dX6_image_54 ?_
        refine g_iast 55 O (((mw, msd, mn, mon, mhn, mrd, mtn, mad, mpn), (se, wo, jf, ow, oj, kf, ff, vf, cf, tf, pb), (fat, whl, nw, nwd, njn), (rd, so, vl, jg), tko, (sdn, hh_), (1, mw, mhn, mrd, mtn, upd kc1 k (cf k), ko))) 18 k rfl (rfl) (by omega) (by decide) rfl dX6_image_55 ?_
        refine g_iinc 56 O (v := nI (k + 1)) (q := 0) (lv' := [(1, .int (nI (k + 1))), (0, .ref (a 0))]) dX6_image_56 rfl (nI_1 k) (by decide) rfl ?_
        refine g_goto 59 O 39 dX6_image_59 (by decide) ?_
        refine g_sub [0, 1] (lv' := [(1, .int (nI (k + 1))), (0, .ref (a 0))]) rfl ?_
        exact ih39 (k + 1) (upd kc1 k (cf k)) (by omega) (upd_ext hc1 rfl) (by omega)
  exact L39 _ 0 kc (Nat.zero_le _) (fun i h => absurd h (Nat.not_lt_zero _)) (Nat.lt_succ_self _)

set_option maxRecDepth 100000 in
set_option maxHeartbeats 4000000 in
theorem c_X6_restore (l : Launch) (E : Ev) (a : Nat → Nat) (mw msd mn mon mhn mrd mtn mad mpn : Int32) (se wo jf ow oj kf ff vf cf tf pb : Nat → Int32) (fat whl nw : Int32) (nwd njn : Nat → Int32) (rd : Int32) (so vl : Nat → Int64) (jg : Nat → Int32) (tko : Nat → Int32) (sdn hh_ : Int64) (ik kw kh kr kt : Int32) (kc ko : Nat → Int32) (wn : Nat) (rn sn0 : Int32) (adn pn : Nat) (pc : Nat → Int32) (z : Nat → Nat) (y o : Sy) (hr : Hr) (tl : Tl) (ib : Bool) (iw : Nat) (ir : Int32) (ih : Hr) (it : Tl) (hS : RMc mw msd mn mon mhn mrd mtn mad mpn se wo jf ow oj kf ff vf cf tf pb ik kw kh kr kt kc ko wn rn sn0 adn pn pc z y o hr tl ib iw ir ih it) : Ctr l yX6_restore cX6_restore 2 (some .int) 0 0 E (wM E a) [.ref (a 0)] (((mw, msd, mn, mon, mhn, mrd, mtn, mad, mpn), (se, wo, jf, ow, oj, kf, ff, vf, cf, tf, pb), (fat, whl, nw, nwd, njn), (rd, so, vl, jg), tko, (sdn, hh_), (ik, kw, kh, kr, kt, kc, ko))) (pI (fun r x => r = A_restore ((wn, rn, sn0, adn), (pn, pc), z, y, o, hr, tl, ib, iw, ir, ih, it) ∧ RM x (NS_restore ((wn, rn, sn0, adn), (pn, pc), z, y, o, hr, tl, ib, iw, ir, ih, it)))) := by
  refine Ctr.of' (by decide +kernel) (Nat.le_of_ble_eq_true rfl) (fun X P0 hP0 O => ?_)
  refine g_sub [0] (lv' := [(0, .ref (a 0))]) rfl ?_
  have hS9 := hS
  obtain ⟨⟨hwn, hwn0⟩, hrn, hsn, ⟨had, had0⟩, ⟨hpn, hpn0, hpb⟩, hz, ⟨hw, hy⟩, ⟨ho, hyo⟩, hh, ht, hik, hkp⟩ := hS
  refine g_aload_n 0 O dX6_restore_0 rfl 0 rfl ?_
  refine g_get 1 O (v := .int ik) inX6 0 rfl rfl 31 (by decide) kf_X6_250 rfl dX6_restore_1 ?_
  refine g_si (bi ib) (hik) ?_
  refine g_if_ne 4 O 10 dX6_restore_4 (by decide) (fun h4 => ?_) (fun h4 => ?_)
  · -- taken
    have hib := bi_t h4
    have hKM := hkp hib
    refine g_aload_n 10 O dX6_restore_10 rfl 0 rfl ?_
    refine g_aload_n 11 O dX6_restore_11 rfl 0 rfl ?_
    refine g_get 12 O (v := .int kw) inX6 0 rfl rfl 32 (by decide) kf_X6_253 rfl dX6_restore_12 ?_
    refine g_put 15 O inX6 tyX6_ok nmX6 (((kw, msd, mn, mon, mhn, mrd, mtn, mad, mpn), (se, wo, jf, ow, oj, kf, ff, vf, cf, tf, pb), (fat, whl, nw, nwd, njn), (rd, so, vl, jg), tko, (sdn, hh_), (ik, kw, kh, kr, kt, kc, ko))) 0 rfl rfl 0 (by decide) kf_X6_162 rfl (rfl) (rfl) (Nat.le_of_ble_eq_true rfl) rfl dX6_restore_15 ?_
    refine g_aload_n 18 O dX6_restore_18 rfl 0 rfl ?_
    refine g_aload_n 19 O dX6_restore_19 rfl 0 rfl ?_
    refine g_get 20 O (v := .int kh) inX6 0 rfl rfl 33 (by decide) kf_X6_256 rfl dX6_restore_20 ?_
    refine g_put 23 O inX6 tyX6_ok nmX6 (((kw, msd, mn, mon, kh, mrd, mtn, mad, mpn), (se, wo, jf, ow, oj, kf, ff, vf, cf, tf, pb), (fat, whl, nw, nwd, njn), (rd, so, vl, jg), tko, (sdn, hh_), (ik, kw, kh, kr, kt, kc, ko))) 0 rfl rfl 9 (by decide) kf_X6_175 rfl (rfl) (rfl) (Nat.le_of_ble_eq_true rfl) rfl dX6_restore_23 ?_
    refine g_aload_n 26 O dX6_restore_26 rfl 0 rfl ?_
    refine g_aload_n 27 O dX6_restore_27 rfl 0 rfl ?_
    refine g_get 28 O (v := .int kr) inX6 0 rfl rfl 34 (by decide) kf_X6_259 rfl dX6_restore_28 ?_
    refine g_put 31 O inX6 tyX6_ok nmX6 (((kw, msd, mn, mon, kh, kr, mtn, mad, mpn), (se, wo, jf, ow, oj, kf, ff, vf, cf, tf, pb), (fat, whl, nw, nwd, njn), (rd, so, vl, jg), tko, (sdn, hh_), (ik, kw, kh, kr, kt, kc, ko))) 0 rfl rfl 14 (by decide) kf_X6_197 rfl (rfl) (rfl) (Nat.le_of_ble_eq_true rfl) rfl dX6_restore_31 ?_
    refine g_aload_n 34 O dX6_restore_34 rfl 0 rfl ?_
    refine g_aload_n 35 O dX6_restore_35 rfl 0 rfl ?_
    refine g_get 36 O (v := .int kt) inX6 0 rfl rfl 35 (by decide) kf_X6_262 rfl dX6_restore_36 ?_
    refine g_put 39 O inX6 tyX6_ok nmX6 (((kw, msd, mn, mon, kh, kr, kt, mad, mpn), (se, wo, jf, ow, oj, kf, ff, vf, cf, tf, pb), (fat, whl, nw, nwd, njn), (rd, so, vl, jg), tko, (sdn, hh_), (ik, kw, kh, kr, kt, kc, ko))) 0 rfl rfl 15 (by decide) kf_X6_226 rfl (rfl) (rfl) (Nat.le_of_ble_eq_true rfl) rfl dX6_restore_39 ?_
    refine g_iconst 42 O (v := 0) dX6_restore_42 (by decide) ?_
    refine g_istore_n 43 O (lv' := [(1, .int 0), (0, .ref (a 0))]) dX6_restore_43 rfl (by decide) rfl ?_
    refine g_sub [0, 1] (lv' := [(1, .int 0), (0, .ref (a 0))]) rfl ?_
    have L44 : ∀ (fuel : Nat) (k : Nat) (cf1 : Nat → Int32) (hk : k ≤ 4) (hc1 : ∀ i, i < k → cf1 i = kc i), 4 - k < fuel → G l E (wM E a) P0 X 2 (((kw, msd, mn, mon, kh, kr, kt, mad, mpn), (se, wo, jf, ow, oj, kf, ff, vf, cf1, tf, pb), (fat, whl, nw, nwd, njn), (rd, so, vl, jg), tko, (sdn, hh_), (ik, kw, kh, kr, kt, kc, ko))) 44 [(1, .int (nI k)), (0, .ref (a 0))] [] := by
      intro fuel
      induction fuel with
      | zero => intro k cf1 hk hc1 hfu; exact absurd hfu (Nat.not_lt_zero _)
      | succ fuel ih44 =>
        intro k cf1 hk hc1 hfu
        refine g_iload_n 44 O dX6_restore_44 rfl 0 rfl ?_
        refine g_iconst 45 O (v := 4) dX6_restore_45 (by decide) ?_
        refine g_icmp_ge 46 O 67 dX6_restore_46 (by decide) (fun h46 => ?_) (fun h46 => ?_)
        · -- taken
          have e : k = 4 := by have := ge_of_le (n := 4) (by omega) (by decide) h46; omega
          subst e
          refine g_iconst 67 O (v := 0) dX6_restore_67 (by decide) ?_
          refine g_istore_n 68 O (lv' := [(1, .int 0), (0, .ref (a 0))]) dX6_restore_68 rfl (by decide) rfl ?_
          refine g_sub [0, 1] (lv' := [(1, .int 0), (0, .ref (a 0))]) rfl ?_
          have L69 : ∀ (fuel : Nat) (k : Nat) (tf1 : Nat → Int32) (hk : k ≤ 6) (ho1 : ∀ i, i < k → tf1 i = ko i), 6 - k < fuel → G l E (wM E a) P0 X 2 (((kw, msd, mn, mon, kh, kr, kt, mad, mpn), (se, wo, jf, ow, oj, kf, ff, vf, cf1, tf1, pb), (fat, whl, nw, nwd, njn), (rd, so, vl, jg), tko, (sdn, hh_), (ik, kw, kh, kr, kt, kc, ko))) 69 [(1, .int (nI k)), (0, .ref (a 0))] [] := by
            intro fuel
            induction fuel with
            | zero => intro k tf1 hk ho1 hfu; exact absurd hfu (Nat.not_lt_zero _)
            | succ fuel ih69 =>
              intro k tf1 hk ho1 hfu
              refine g_iload_n 69 O dX6_restore_69 rfl 0 rfl ?_
              refine g_bipush 70 O (v := 6) dX6_restore_70 (by decide) ?_
              refine g_icmp_ge 72 O 93 dX6_restore_72 (by decide) (fun h72 => ?_) (fun h72 => ?_)
              · -- taken
                have e : k = 6 := by have := ge_of_le (n := 6) (by omega) (by decide) h72; omega
                subst e
                refine g_aload_n 93 O dX6_restore_93 rfl 1 rfl ?_
                refine g_get 94 O (v := .int kw) inX6 0 rfl rfl 0 (by decide) kf_X6_162 rfl dX6_restore_94 ?_
                refine g_si (nI iw) (hKM.1.1) ?_
                exact g_iret 97 O dX6_restore_97 (by rw [hP0, A_restore, if_pos (show ib = true from hib), NS_restore, if_pos (show ib = true from hib)]; exact ⟨_, rfl, rfl, ⟨hKM.1, hKM.2.1, hsn, ⟨had, had0⟩, ⟨hpn, hpn0, hpb⟩, hz, ⟨hw, hy⟩, ⟨ho, hyo⟩, KM_h0 hh hKM hc1, KM_t0 hKM ho1, hik, fun _ => KM_s hKM⟩⟩)
              · -- not taken
                have hlt : k < 6 := lt_of_nge (n := 6) (by omega) h72
                refine g_aload_n 75 O dX6_restore_75 rfl 1 rfl ?_
                refine g_get 76 O (v := .ref (a 10)) inX6 0 rfl rfl 16 (by decide) kf_X6_37 rfl dX6_restore_76 ?_
                refine g_iload_n 79 O dX6_restore_79 rfl 0 rfl ?_
                refine g_aload_n 80 O dX6_restore_80 rfl 1 rfl ?_
                refine g_get 81 O (v := .ref (a 19)) inX6 0 rfl rfl 37 (by decide) kf_X6_66 rfl dX6_restore_81 ?_
                refine g_iload_n 84 O dX6_restore_84 rfl 0 rfl ?_
                refine g_iald 85 O 19 k rfl (rfl) (by omega) (by decide) dX6_restore_85 ?_
                refine g_iast 86 O (((kw, msd, mn, mon, kh, kr, kt, mad, mpn), (se, wo, jf, ow, oj, kf, ff, vf, cf1, upd tf1 k (ko k), pb), (fat, whl, nw, nwd, njn), (rd, so, vl, jg), tko, (sdn, hh_), (ik, kw, kh, kr, kt, kc, ko))) 10 k rfl (rfl) (by omega) (by decide) rfl dX6_restore_86 ?_
                refine g_iinc 87 O (v := nI (k + 1)) (q := 0) (lv' := [(1, .int (nI (k + 1))), (0, .ref (a 0))]) dX6_restore_87 rfl (nI_1 k) (by decide) rfl ?_
                refine g_goto 90 O 69 dX6_restore_90 (by decide) ?_
                refine g_sub [0, 1] (lv' := [(1, .int (nI (k + 1))), (0, .ref (a 0))]) rfl ?_
                exact ih69 (k + 1) (upd tf1 k (ko k)) (by omega) (upd_ext ho1 rfl) (by omega)
          exact L69 _ 0 tf (Nat.zero_le _) (fun i h => absurd h (Nat.not_lt_zero _)) (Nat.lt_succ_self _)
        · -- not taken
          have hlt : k < 4 := lt_of_nge (n := 4) (by omega) h46
          refine g_aload_n 49 O dX6_restore_49 rfl 1 rfl ?_
          refine g_get 50 O (v := .ref (a 9)) inX6 0 rfl rfl 13 (by decide) kf_X6_34 rfl dX6_restore_50 ?_
          refine g_iload_n 53 O dX6_restore_53 rfl 0 rfl ?_
          refine g_aload_n 54 O dX6_restore_54 rfl 1 rfl ?_
          refine g_get 55 O (v := .ref (a 18)) inX6 0 rfl rfl 36 (by decide) kf_X6_63 rfl dX6_restore_55 ?_
          refine g_iload_n 58 O dX6_restore_58 rfl 0 rfl ?_
          refine g_iald 59 O 18 k rfl (rfl) (by omega) (by decide) dX6_restore_59 ?_
          refine g_iast 60 O (((kw, msd, mn, mon, kh, kr, kt, mad, mpn), (se, wo, jf, ow, oj, kf, ff, vf, upd cf1 k (kc k), tf, pb), (fat, whl, nw, nwd, njn), (rd, so, vl, jg), tko, (sdn, hh_), (ik, kw, kh, kr, kt, kc, ko))) 9 k rfl (rfl) (by omega) (by decide) rfl dX6_restore_60 ?_
          refine g_iinc 61 O (v := nI (k + 1)) (q := 0) (lv' := [(1, .int (nI (k + 1))), (0, .ref (a 0))]) dX6_restore_61 rfl (nI_1 k) (by decide) rfl ?_
          refine g_goto 64 O 44 dX6_restore_64 (by decide) ?_
          refine g_sub [0, 1] (lv' := [(1, .int (nI (k + 1))), (0, .ref (a 0))]) rfl ?_
          exact ih44 (k + 1) (upd cf1 k (kc k)) (by omega) (upd_ext hc1 rfl) (by omega)
    exact L44 _ 0 cf (Nat.zero_le _) (fun i h => absurd h (Nat.not_lt_zero _)) (Nat.lt_succ_self _)
  · -- not taken
    have hib := bi_f h4
    refine g_bipush 7 O (v := (-103)) dX6_restore_7 (by decide) ?_
    exact g_iret 9 O dX6_restore_9 (by rw [hP0, A_restore, if_neg (show ¬ ib = true from by rw [hib]; decide), NS_restore, if_neg (show ¬ ib = true from by rw [hib]; decide)]; exact ⟨_, rfl, rfl, hS9⟩)

set_option maxRecDepth 100000 in
set_option maxHeartbeats 4000000 in
theorem c_X6_count (l : Launch) (E : Ev) (a : Nat → Nat) (mw msd mn mon mhn mrd mtn mad mpn : Int32) (se wo jf ow oj kf ff vf cf tf pb : Nat → Int32) (fat whl nw : Int32) (nwd njn : Nat → Int32) (rd : Int32) (so vl : Nat → Int64) (jg : Nat → Int32) (tko : Nat → Int32) (sdn hh_ : Int64) (ik kw kh kr kt : Int32) (kc ko : Nat → Int32) (p0 : Int32) (wn : Nat) (rn sn0 : Int32) (adn pn : Nat) (pc : Nat → Int32) (z : Nat → Nat) (y o : Sy) (hr : Hr) (tl : Tl) (ib : Bool) (iw : Nat) (ir : Int32) (ih : Hr) (it : Tl) (hS : RMc mw msd mn mon mhn mrd mtn mad mpn se wo jf ow oj kf ff vf cf tf pb ik kw kh kr kt kc ko wn rn sn0 adn pn pc z y o hr tl ib iw ir ih it) : Ctr l yX6_count cX6_count 2 (some .int) 4 89 E (wM E a) [.ref (a 0), .int p0] (((mw, msd, mn, mon, mhn, mrd, mtn, mad, mpn), (se, wo, jf, ow, oj, kf, ff, vf, cf, tf, pb), (fat, whl, nw, nwd, njn), (rd, so, vl, jg), tko, (sdn, hh_), (ik, kw, kh, kr, kt, kc, ko))) (pI (fun r x => r = cntN ((wn, rn, sn0, adn), (pn, pc), z, y, o, hr, tl, ib, iw, ir, ih, it) p0 ∧ RM x (((wn, rn, sn0, adn), (pn, pc), z, y, o, hr, tl, ib, iw, ir, ih, it)))) := by
  refine Ctr.of' (by decide +kernel) (Nat.le_of_ble_eq_true rfl) (fun X P0 hP0 O => ?_)
  refine g_sub [0, 1] (lv' := [(0, .ref (a 0)), (1, .int p0)]) rfl ?_
  have hS9 := hS
  obtain ⟨⟨hwn, hwn0⟩, hrn, hsn, ⟨had, had0⟩, ⟨hpn, hpn0, hpb⟩, hz, ⟨hw, hy⟩, ⟨ho, hyo⟩, hh, ht, hik, hkp⟩ := hS
  refine g_aload_n 0 O dX6_count_0 rfl 0 rfl ?_
  refine g_iload_n 1 O dX6_count_1 rfl 1 rfl ?_
  refine g_callV 2 O (na := 1) (av := [.int p0]) (c_X6_howMany l E a mw msd mn mon mhn mrd mtn mad mpn se wo jf ow oj kf ff vf cf tf pb fat whl nw nwd njn rd so vl jg tko sdn hh_ ik kw kh kr kt kc ko p0 wn rn sn0 adn pn pc z y o hr tl ib iw ir ih it hS9) kl_X6_268 km_X6_howMany kv_X6_howMany ki_X6 kc_X6_howMany (by decide +kernel) rfl (Nat.le_of_ble_eq_true rfl) (Nat.le_of_ble_eq_true rfl) (fun _ h => h) 0 rfl rfl (fun s => s) (fun _ _ _ _ h => h) rfl (Nat.le_of_ble_eq_true rfl) dX6_count_2 (fun v9 s9 hv9 => ?_)
  obtain ⟨rfl, rfl⟩ := hv9
  exact g_iret 5 O dX6_count_5 (by rw [hP0]; exact ⟨_, rfl, rfl, hS9⟩)

set_option maxRecDepth 100000 in
set_option maxHeartbeats 4000000 in
theorem c_X6_digest (l : Launch) (E : Ev) (a : Nat → Nat) (mw msd mn mon mhn mrd mtn mad mpn : Int32) (se wo jf ow oj kf ff vf cf tf pb : Nat → Int32) (fat whl nw : Int32) (nwd njn : Nat → Int32) (rd : Int32) (so vl : Nat → Int64) (jg : Nat → Int32) (tko : Nat → Int32) (sdn hh_ : Int64) (ik kw kh kr kt : Int32) (kc ko : Nat → Int32) (wn : Nat) (rn sn0 : Int32) (adn pn : Nat) (pc : Nat → Int32) (z : Nat → Nat) (y o : Sy) (hr : Hr) (tl : Tl) (ib : Bool) (iw : Nat) (ir : Int32) (ih : Hr) (it : Tl) (hS : RMc mw msd mn mon mhn mrd mtn mad mpn se wo jf ow oj kf ff vf cf tf pb ik kw kh kr kt kc ko wn rn sn0 adn pn pc z y o hr tl ib iw ir ih it) : Ctr l yX6_digest cX6_digest 3 (some .long) 5 143 E (wM E a) [.ref (a 0)] (((mw, msd, mn, mon, mhn, mrd, mtn, mad, mpn), (se, wo, jf, ow, oj, kf, ff, vf, cf, tf, pb), (fat, whl, nw, nwd, njn), (rd, so, vl, jg), tko, (sdn, hh_), (ik, kw, kh, kr, kt, kc, ko))) (pL (fun r x => r = A_digest ((wn, rn, sn0, adn), (pn, pc), z, y, o, hr, tl, ib, iw, ir, ih, it) ∧ RM x ((wn, rn, sn0, adn), (pn, pc), z, y, o, hr, tl, ib, iw, ir, ih, it))) := by
  refine Ctr.of' (by decide +kernel) (Nat.le_of_ble_eq_true rfl) (fun X P0 hP0 O => ?_)
  refine g_sub [0] (lv' := [(0, .ref (a 0))]) rfl ?_
  have hS9 := hS
  obtain ⟨⟨hwn, hwn0⟩, hrn, hsn, ⟨had, had0⟩, ⟨hpn, hpn0, hpb⟩, hz, ⟨hw, hy⟩, ⟨ho, hyo⟩, hh, ht, hik, hkp⟩ := hS
  have hh4 := hh.2.1
  refine g_aload_n 0 O dX6_digest_0 rfl 0 rfl ?_
  refine g_ldc2 1 O (v := 739) dX6_digest_1 kk_X6_276 ?_
  refine g_put 4 O inX6 tyX6_ok nmX6 (((mw, msd, mn, mon, mhn, mrd, mtn, mad, mpn), (se, wo, jf, ow, oj, kf, ff, vf, cf, tf, pb), (fat, whl, nw, nwd, njn), (rd, so, vl, jg), tko, (sdn, 739), (ik, kw, kh, kr, kt, kc, ko))) 0 rfl rfl 38 (by decide) kf_X6_273 rfl (rfl) (rfl) (Nat.le_of_ble_eq_true rfl) rfl dX6_digest_4 ?_
  refine g_iconst 7 O (v := 0) dX6_digest_7 (by decide) ?_
  refine g_istore_n 8 O (lv' := [(1, .int 0), (0, .ref (a 0))]) dX6_digest_8 rfl (by decide) rfl ?_
  refine g_sub [0, 1] (lv' := [(1, .int 0), (0, .ref (a 0))]) rfl ?_
  have L9 : ∀ (fuel : Nat) (i : Nat) (hvi : i ≤ 6), 6 - i < fuel → G l E (wM E a) P0 X 3 (((mw, msd, mn, mon, mhn, mrd, mtn, mad, mpn), (se, wo, jf, ow, oj, kf, ff, vf, cf, tf, pb), (fat, whl, nw, nwd, njn), (rd, so, vl, jg), tko, (sdn, mxs (fun k => (nI (z k)).toInt64) i 739), (ik, kw, kh, kr, kt, kc, ko))) 9 [(1, .int (nI i)), (0, .ref (a 0))] [] := by
    intro fuel
    induction fuel with
    | zero => intro i hvi hfu; exact absurd hfu (Nat.not_lt_zero _)
    | succ fuel ih9 =>
      intro i hvi hfu
      refine g_iload_n 9 O dX6_digest_9 rfl 0 rfl ?_
      refine g_bipush 10 O (v := 6) dX6_digest_10 (by decide) ?_
      refine g_icmp_ge 12 O 32 dX6_digest_12 (by decide) (fun h12 => ?_) (fun h12 => ?_)
      · -- taken
        have e12 : i = 6 := by have := ge_of_le (n := 6) (by omega) (by decide) h12; omega
        subst e12
        refine g_iconst 32 O (v := 0) dX6_digest_32 (by decide) ?_
        refine g_istore_n 33 O (lv' := [(1, .int 0), (0, .ref (a 0))]) dX6_digest_33 rfl (by decide) rfl ?_
        refine g_sub [0, 1] (lv' := [(1, .int 0), (0, .ref (a 0))]) rfl ?_
        have L34 : ∀ (fuel : Nat) (j : Nat) (hvj : j ≤ 6), 6 - j < fuel → G l E (wM E a) P0 X 3 (((mw, msd, mn, mon, mhn, mrd, mtn, mad, mpn), (se, wo, jf, ow, oj, kf, ff, vf, cf, tf, pb), (fat, whl, nw, nwd, njn), (rd, so, vl, jg), tko, (sdn, mxs (fun k => (nI (bitN wn k)).toInt64) j (mxs (fun k => (nI (z k)).toInt64) 6 739)), (ik, kw, kh, kr, kt, kc, ko))) 34 [(1, .int (nI j)), (0, .ref (a 0))] [] := by
          intro fuel
          induction fuel with
          | zero => intro j hvj hfu; exact absurd hfu (Nat.not_lt_zero _)
          | succ fuel ih34 =>
            intro j hvj hfu
            refine g_iload_n 34 O dX6_digest_34 rfl 0 rfl ?_
            refine g_bipush 35 O (v := 6) dX6_digest_35 (by decide) ?_
            refine g_icmp_ge 37 O 59 dX6_digest_37 (by decide) (fun h37 => ?_) (fun h37 => ?_)
            · -- taken
              have e37 : j = 6 := by have := ge_of_le (n := 6) (by omega) (by decide) h37; omega
              rw [show (mxs (fun k => (nI (bitN wn k)).toInt64) j (mxs (fun k => (nI (z k)).toInt64) 6 739)) = (mxs (fun k => (nI (bitN wn k)).toInt64) 6 (mxs (fun k => (nI (z k)).toInt64) 6 739)) from by rw [e37]]
              refine g_aload_n 59 O dX6_digest_59 rfl 1 rfl ?_
              refine g_aload_n 60 O dX6_digest_60 rfl 1 rfl ?_
              refine g_get 61 O (v := .int mn) inX6 0 rfl rfl 3 (by decide) kf_X6_97 rfl dX6_digest_61 ?_
              refine g_iconst 64 O (v := 0) dX6_digest_64 (by decide) ?_
              refine g_callV 65 O (na := 2) (av := [.int mn, .int 0]) (c_X6_lay l E a mw msd mn mon mhn mrd mtn mad mpn se wo jf ow oj kf ff vf cf tf pb fat whl nw nwd njn rd so vl jg tko sdn ((mxs (fun k => (nI (bitN wn k)).toInt64) 6 (mxs (fun k => (nI (z k)).toInt64) 6 739))) ik kw kh kr kt kc ko mn 0 y z y.1 hw rfl (YM0 hy) hz) kl_X6_106 km_X6_lay kv_X6_lay ki_X6 kc_X6_lay (by decide +kernel) rfl (Nat.le_of_ble_eq_true rfl) (Nat.le_of_ble_eq_true rfl) (fun _ h => h) 0 rfl rfl (fun s => s) (fun _ _ _ _ h => h) rfl (Nat.le_of_ble_eq_true rfl) dX6_digest_65 (fun v9 s9 hv9 => ?_)
              obtain ⟨rfl, so', vl', jg', rfl, hso⟩ := hv9
              refine g_iconst 68 O (v := 0) dX6_digest_68 (by decide) ?_
              refine g_istore_n 69 O (lv' := [(1, .int 0), (0, .ref (a 0))]) dX6_digest_69 rfl (by decide) rfl ?_
              refine g_sub [0, 1] (lv' := [(1, .int 0), (0, .ref (a 0))]) rfl ?_
              have L70 : ∀ (fuel : Nat) (k : Nat) (hk : k ≤ hr.1), hr.1 - k < fuel → G l E (wM E a) P0 X 3 (((mw, msd, mn, mon, mhn, mrd, mtn, mad, mpn), (se, wo, jf, ow, oj, kf, ff, vf, cf, tf, pb), (fat, whl, nw, nwd, njn), (nI (NR y), so', vl', jg'), tko, (sdn, dgH z y hr wn k (mxs (fun k => (nI (bitN wn k)).toInt64) 6 (mxs (fun k => (nI (z k)).toInt64) 6 739))), (ik, kw, kh, kr, kt, kc, ko))) 70 [(1, .int (nI k)), (0, .ref (a 0))] [] := by
                intro fuel
                induction fuel with
                | zero => intro k hk hfu; exact absurd hfu (Nat.not_lt_zero _)
                | succ fuel ih70 =>
                  intro k hk hfu
                  refine g_iload_n 70 O dX6_digest_70 rfl 0 rfl ?_
                  refine g_aload_n 71 O dX6_digest_71 rfl 1 rfl ?_
                  refine g_get 72 O (v := .int mhn) inX6 0 rfl rfl 9 (by decide) kf_X6_175 rfl dX6_digest_72 ?_
                  refine g_si (nI hr.1) (hh.1) ?_
                  refine g_icmp_ge 75 O 109 dX6_digest_75 (by decide) (fun h75 => ?_) (fun h75 => ?_)
                  · -- taken
                    have e : k = hr.1 := by have := ge_of_le (by omega) (by omega) h75; omega
                    rw [show (dgH z y hr wn k (mxs (fun k => (nI (bitN wn k)).toInt64) 6 (mxs (fun k => (nI (z k)).toInt64) 6 739))) = dgH z y hr wn hr.1 (mxs (fun k => (nI (bitN wn k)).toInt64) 6 (mxs (fun k => (nI (z k)).toInt64) 6 739)) from by rw [e]]
                    refine g_aload_n 109 O dX6_digest_109 rfl 1 rfl ?_
                    refine g_get 110 O (v := .int mn) inX6 0 rfl rfl 3 (by decide) kf_X6_97 rfl dX6_digest_110 ?_
                    refine g_if_le 113 O 184 dX6_digest_113 (by decide) (fun h113 => ?_) (fun h113 => ?_)
                    · -- taken
                      have y0 : y.1 = 0 := Nat.le_zero.mp (ge_of_le (n := y.1) (i := 0) (by decide) (by have := hy.1; omega) (hw ▸ h113))
                      refine g_iconst 184 O (v := 0) dX6_digest_184 (by decide) ?_
                      refine g_istore_n 185 O (lv' := [(1, .int 0), (0, .ref (a 0))]) dX6_digest_185 rfl (by decide) rfl ?_
                      refine g_iload_n 186 O dX6_digest_186 rfl 0 rfl ?_
                      refine g_aload_n 187 O dX6_digest_187 rfl 1 rfl ?_
                      refine g_get 188 O (v := .int mhn) inX6 0 rfl rfl 9 (by decide) kf_X6_175 rfl dX6_digest_188 ?_
                      refine g_icmp_ge 191 O 236 dX6_digest_191 (by decide) (fun h191 => ?_) (fun h191 => ?_)
                      · -- taken
                        rw [show (dgH z y hr wn hr.1 (mxs (fun k => (nI (bitN wn k)).toInt64) 6 (mxs (fun k => (nI (z k)).toInt64) 6 739))) = ((fun h => if y.1 = 0 then h else if tl.1 = 0 then dgS z y o hr wn h else dgF z y hr tl hr.1 (dgS z y o hr wn h)) (dgH z y hr wn hr.1 (mxs (fun k => (nI (bitN wn k)).toInt64) 6 (mxs (fun k => (nI (z k)).toInt64) 6 739)))) from by show _ = (if y.1 = 0 then _ else if tl.1 = 0 then _ else _); rw [if_pos y0]]
                        refine g_iconst 236 O (v := 0) dX6_digest_236 (by decide) ?_
                        refine g_istore_n 237 O (lv' := [(1, .int 0), (0, .ref (a 0))]) dX6_digest_237 rfl (by decide) rfl ?_
                        refine g_sub [0, 1] (lv' := [(1, .int 0), (0, .ref (a 0))]) rfl ?_
                        have L238 : ∀ (fuel : Nat) (i : Nat) (hvi : i ≤ pn), pn - i < fuel → G l E (wM E a) P0 X 3 (((mw, msd, mn, mon, mhn, mrd, mtn, mad, mpn), (se, wo, jf, ow, oj, kf, ff, vf, cf, tf, pb), (fat, whl, nw, nwd, njn), (nI (NR y), so', vl', jg'), tko, (sdn, mxs (fun k => (pc k).toInt64) i ((fun h => if y.1 = 0 then h else if tl.1 = 0 then dgS z y o hr wn h else dgF z y hr tl hr.1 (dgS z y o hr wn h)) (dgH z y hr wn hr.1 (mxs (fun k => (nI (bitN wn k)).toInt64) 6 (mxs (fun k => (nI (z k)).toInt64) 6 739))))), (ik, kw, kh, kr, kt, kc, ko))) 238 [(1, .int (nI i)), (0, .ref (a 0))] [] := by
                          intro fuel
                          induction fuel with
                          | zero => intro i hvi hfu; exact absurd hfu (Nat.not_lt_zero _)
                          | succ fuel ih238 =>
                            intro i hvi hfu
                            refine g_iload_n 238 O dX6_digest_238 rfl 0 rfl ?_
                            refine g_aload_n 239 O dX6_digest_239 rfl 1 rfl ?_
                            refine g_get 240 O (v := .int mpn) inX6 0 rfl rfl 18 (by decide) kf_X6_73 rfl dX6_digest_240 ?_
                            refine g_si (nI pn) (hpn) ?_
                            refine g_icmp_ge 243 O 263 dX6_digest_243 (by decide) (fun h243 => ?_) (fun h243 => ?_)
                            · -- taken
                              have e243 : i = pn := by have := ge_of_le (n := pn) (by omega) (by omega) h243; omega
                              rw [show (mxs (fun k => (pc k).toInt64) i ((fun h => if y.1 = 0 then h else if tl.1 = 0 then dgS z y o hr wn h else dgF z y hr tl hr.1 (dgS z y o hr wn h)) (dgH z y hr wn hr.1 (mxs (fun k => (nI (bitN wn k)).toInt64) 6 (mxs (fun k => (nI (z k)).toInt64) 6 739))))) = mxs (fun k => (pc k).toInt64) pn ((fun h => if y.1 = 0 then h else if tl.1 = 0 then dgS z y o hr wn h else dgF z y hr tl hr.1 (dgS z y o hr wn h)) (dgH z y hr wn hr.1 (mxs (fun k => (nI (bitN wn k)).toInt64) 6 (mxs (fun k => (nI (z k)).toInt64) 6 739)))) from by rw [e243]]
                              refine g_iconst 263 O (v := 0) dX6_digest_263 (by decide) ?_
                              refine g_istore_n 264 O (lv' := [(1, .int 0), (0, .ref (a 0))]) dX6_digest_264 rfl (by decide) rfl ?_
                              refine g_sub [0, 1] (lv' := [(1, .int 0), (0, .ref (a 0))]) rfl ?_
                              have L265 : ∀ (fuel : Nat) (q : Nat) (hvq : q ≤ 10), 10 - q < fuel → G l E (wM E a) P0 X 3 (((mw, msd, mn, mon, mhn, mrd, mtn, mad, mpn), (se, wo, jf, ow, oj, kf, ff, vf, cf, tf, pb), (fat, whl, nw, nwd, njn), (nI (NR y), so', vl', jg'), tko, (sdn, mxs (fun k => (cntN ((wn, rn, sn0, adn), (pn, pc), z, y, o, hr, tl, ib, iw, ir, ih, it) (nI k)).toInt64) q (mxs (fun k => (pc k).toInt64) pn ((fun h => if y.1 = 0 then h else if tl.1 = 0 then dgS z y o hr wn h else dgF z y hr tl hr.1 (dgS z y o hr wn h)) (dgH z y hr wn hr.1 (mxs (fun k => (nI (bitN wn k)).toInt64) 6 (mxs (fun k => (nI (z k)).toInt64) 6 739)))))), (ik, kw, kh, kr, kt, kc, ko))) 265 [(1, .int (nI q)), (0, .ref (a 0))] [] := by
                                intro fuel
                                induction fuel with
                                | zero => intro q hvq hfu; exact absurd hfu (Nat.not_lt_zero _)
                                | succ fuel ih265 =>
                                  intro q hvq hfu
                                  refine g_iload_n 265 O dX6_digest_265 rfl 0 rfl ?_
                                  refine g_bipush 266 O (v := 10) dX6_digest_266 (by decide) ?_
                                  refine g_icmp_ge 268 O 287 dX6_digest_268 (by decide) (fun h268 => ?_) (fun h268 => ?_)
                                  · -- taken
                                    have e268 : q = 10 := by have := ge_of_le (n := 10) (by omega) (by decide) h268; omega
                                    rw [show (mxs (fun k => (cntN ((wn, rn, sn0, adn), (pn, pc), z, y, o, hr, tl, ib, iw, ir, ih, it) (nI k)).toInt64) q (mxs (fun k => (pc k).toInt64) pn ((fun h => if y.1 = 0 then h else if tl.1 = 0 then dgS z y o hr wn h else dgF z y hr tl hr.1 (dgS z y o hr wn h)) (dgH z y hr wn hr.1 (mxs (fun k => (nI (bitN wn k)).toInt64) 6 (mxs (fun k => (nI (z k)).toInt64) 6 739)))))) = mxs (fun k => (cntN ((wn, rn, sn0, adn), (pn, pc), z, y, o, hr, tl, ib, iw, ir, ih, it) (nI k)).toInt64) 10 (mxs (fun k => (pc k).toInt64) pn ((fun h => if y.1 = 0 then h else if tl.1 = 0 then dgS z y o hr wn h else dgF z y hr tl hr.1 (dgS z y o hr wn h)) (dgH z y hr wn hr.1 (mxs (fun k => (nI (bitN wn k)).toInt64) 6 (mxs (fun k => (nI (z k)).toInt64) 6 739))))) from by rw [e268]]
                                    refine g_aload_n 287 O dX6_digest_287 rfl 1 rfl ?_
                                    refine g_get 288 O (v := .long (mxs (fun k => (cntN ((wn, rn, sn0, adn), (pn, pc), z, y, o, hr, tl, ib, iw, ir, ih, it) (nI k)).toInt64) 10 (mxs (fun k => (pc k).toInt64) pn ((fun h => if y.1 = 0 then h else if tl.1 = 0 then dgS z y o hr wn h else dgF z y hr tl hr.1 (dgS z y o hr wn h)) (dgH z y hr wn hr.1 (mxs (fun k => (nI (bitN wn k)).toInt64) 6 (mxs (fun k => (nI (z k)).toInt64) 6 739))))))) inX6 0 rfl rfl 38 (by decide) kf_X6_273 rfl dX6_digest_288 ?_
                                    exact g_lret 291 O dX6_digest_291 (by rw [hP0, A_digest]; exact ⟨_, rfl, rfl, hS9⟩)
                                  · -- not taken
                                    have hlt : q < 10 := lt_of_nge (n := 10) (by omega) h268
                                    refine g_aload_n 271 O dX6_digest_271 rfl 1 rfl ?_
                                    refine g_aload_n 272 O dX6_digest_272 rfl 1 rfl ?_
                                    refine g_iload_n 273 O dX6_digest_273 rfl 0 rfl ?_
                                    refine g_callV 274 O (na := 1) (av := [.int (nI q)]) (c_X6_howMany l E a mw msd mn mon mhn mrd mtn mad mpn se wo jf ow oj kf ff vf cf tf pb fat whl nw nwd njn (nI (NR y)) so' vl' jg' tko sdn (mxs (fun k => (cntN ((wn, rn, sn0, adn), (pn, pc), z, y, o, hr, tl, ib, iw, ir, ih, it) (nI k)).toInt64) q (mxs (fun k => (pc k).toInt64) pn ((fun h => if y.1 = 0 then h else if tl.1 = 0 then dgS z y o hr wn h else dgF z y hr tl hr.1 (dgS z y o hr wn h)) (dgH z y hr wn hr.1 (mxs (fun k => (nI (bitN wn k)).toInt64) 6 (mxs (fun k => (nI (z k)).toInt64) 6 739)))))) ik kw kh kr kt kc ko (nI q) wn rn sn0 adn pn pc z y o hr tl ib iw ir ih it hS9) kl_X6_268 km_X6_howMany kv_X6_howMany ki_X6 kc_X6_howMany (by decide +kernel) rfl (Nat.le_of_ble_eq_true rfl) (Nat.le_of_ble_eq_true rfl) (fun _ h => h) 0 rfl rfl (fun s => s) (fun _ _ _ _ h => h) rfl (Nat.le_of_ble_eq_true rfl) dX6_digest_274 (fun v9 s9 hv9 => ?_)
                                    obtain ⟨rfl, rfl⟩ := hv9
                                    refine g_i2l 277 O dX6_digest_277 ?_
                                    refine g_callV 278 O (na := 1) (av := [.long ((cntN ((wn, rn, sn0, adn), (pn, pc), z, y, o, hr, tl, ib, iw, ir, ih, it) (nI q)).toInt64)]) (c_X6_mix l E a mw msd mn mon mhn mrd mtn mad mpn se wo jf ow oj kf ff vf cf tf pb fat whl nw nwd njn (nI (NR y)) so' vl' jg' tko sdn (mxs (fun k => (cntN ((wn, rn, sn0, adn), (pn, pc), z, y, o, hr, tl, ib, iw, ir, ih, it) (nI k)).toInt64) q (mxs (fun k => (pc k).toInt64) pn ((fun h => if y.1 = 0 then h else if tl.1 = 0 then dgS z y o hr wn h else dgF z y hr tl hr.1 (dgS z y o hr wn h)) (dgH z y hr wn hr.1 (mxs (fun k => (nI (bitN wn k)).toInt64) 6 (mxs (fun k => (nI (z k)).toInt64) 6 739)))))) ik kw kh kr kt kc ko ((cntN ((wn, rn, sn0, adn), (pn, pc), z, y, o, hr, tl, ib, iw, ir, ih, it) (nI q)).toInt64)) kl_X6_278 km_X6_mix kv_X6_mix ki_X6 kc_X6_mix (by decide +kernel) rfl (Nat.le_of_ble_eq_true rfl) (Nat.le_of_ble_eq_true rfl) (fun _ h => h) 0 rfl rfl (fun s => s) (fun _ _ _ _ h => h) rfl (Nat.le_of_ble_eq_true rfl) dX6_digest_278 (fun v9 s9 hv9 => ?_)
                                    obtain ⟨rfl, rfl⟩ := hv9
                                    refine g_iinc 281 O (v := nI (q + 1)) (q := 0) (lv' := [(1, .int (nI (q + 1))), (0, .ref (a 0))]) dX6_digest_281 rfl (nI_1 q) (by decide) rfl ?_
                                    refine g_goto 284 O 265 dX6_digest_284 (by decide) ?_
                                    refine g_sub [0, 1] (lv' := [(1, .int (nI (q + 1))), (0, .ref (a 0))]) rfl ?_
                                    exact ih265 (q + 1) (by omega) (by omega)
                              exact L265 _ 0 (Nat.zero_le _) (Nat.lt_succ_self _)
                            · -- not taken
                              have hlt : i < pn := lt_of_nge (by omega) h243
                              refine g_aload_n 246 O dX6_digest_246 rfl 1 rfl ?_
                              refine g_aload_n 247 O dX6_digest_247 rfl 1 rfl ?_
                              refine g_get 248 O (v := .ref (a 11)) inX6 0 rfl rfl 19 (by decide) kf_X6_40 rfl dX6_digest_248 ?_
                              refine g_iload_n 251 O dX6_digest_251 rfl 0 rfl ?_
                              refine g_bald 252 O 11 i rfl (rfl) (by omega) (by decide) dX6_digest_252 ?_
                              refine g_si (pc i) ((hpb i hlt).1) ?_
                              refine g_i2l 253 O dX6_digest_253 ?_
                              refine g_callV 254 O (na := 1) (av := [.long ((pc i).toInt64)]) (c_X6_mix l E a mw msd mn mon mhn mrd mtn mad mpn se wo jf ow oj kf ff vf cf tf pb fat whl nw nwd njn (nI (NR y)) so' vl' jg' tko sdn (mxs (fun k => (pc k).toInt64) i ((fun h => if y.1 = 0 then h else if tl.1 = 0 then dgS z y o hr wn h else dgF z y hr tl hr.1 (dgS z y o hr wn h)) (dgH z y hr wn hr.1 (mxs (fun k => (nI (bitN wn k)).toInt64) 6 (mxs (fun k => (nI (z k)).toInt64) 6 739))))) ik kw kh kr kt kc ko ((pc i).toInt64)) kl_X6_278 km_X6_mix kv_X6_mix ki_X6 kc_X6_mix (by decide +kernel) rfl (Nat.le_of_ble_eq_true rfl) (Nat.le_of_ble_eq_true rfl) (fun _ h => h) 0 rfl rfl (fun s => s) (fun _ _ _ _ h => h) rfl (Nat.le_of_ble_eq_true rfl) dX6_digest_254 (fun v9 s9 hv9 => ?_)
                              obtain ⟨rfl, rfl⟩ := hv9
                              refine g_iinc 257 O (v := nI (i + 1)) (q := 0) (lv' := [(1, .int (nI (i + 1))), (0, .ref (a 0))]) dX6_digest_257 rfl (nI_1 i) (by decide) rfl ?_
                              refine g_goto 260 O 238 dX6_digest_260 (by decide) ?_
                              refine g_sub [0, 1] (lv' := [(1, .int (nI (i + 1))), (0, .ref (a 0))]) rfl ?_
                              exact ih238 (i + 1) (by omega) (by omega)
                        exact L238 _ 0 (Nat.zero_le _) (Nat.lt_succ_self _)
                      · -- not taken
                        refine g_aload_n 194 O dX6_digest_194 rfl 1 rfl ?_
                        refine g_get 195 O (v := .int mn) inX6 0 rfl rfl 3 (by decide) kf_X6_97 rfl dX6_digest_195 ?_
                        refine g_if_le 198 O 236 dX6_digest_198 (by decide) (fun h198 => ?_) (fun h198 => False.elim (h198 (by rw [hw, y0]; decide)))
                        rw [show (dgH z y hr wn hr.1 (mxs (fun k => (nI (bitN wn k)).toInt64) 6 (mxs (fun k => (nI (z k)).toInt64) 6 739))) = ((fun h => if y.1 = 0 then h else if tl.1 = 0 then dgS z y o hr wn h else dgF z y hr tl hr.1 (dgS z y o hr wn h)) (dgH z y hr wn hr.1 (mxs (fun k => (nI (bitN wn k)).toInt64) 6 (mxs (fun k => (nI (z k)).toInt64) 6 739)))) from by show _ = (if y.1 = 0 then _ else if tl.1 = 0 then _ else _); rw [if_pos y0]]
                        refine g_iconst 236 O (v := 0) dX6_digest_236 (by decide) ?_
                        refine g_istore_n 237 O (lv' := [(1, .int 0), (0, .ref (a 0))]) dX6_digest_237 rfl (by decide) rfl ?_
                        refine g_sub [0, 1] (lv' := [(1, .int 0), (0, .ref (a 0))]) rfl ?_
                        have L238 : ∀ (fuel : Nat) (i : Nat) (hvi : i ≤ pn), pn - i < fuel → G l E (wM E a) P0 X 3 (((mw, msd, mn, mon, mhn, mrd, mtn, mad, mpn), (se, wo, jf, ow, oj, kf, ff, vf, cf, tf, pb), (fat, whl, nw, nwd, njn), (nI (NR y), so', vl', jg'), tko, (sdn, mxs (fun k => (pc k).toInt64) i ((fun h => if y.1 = 0 then h else if tl.1 = 0 then dgS z y o hr wn h else dgF z y hr tl hr.1 (dgS z y o hr wn h)) (dgH z y hr wn hr.1 (mxs (fun k => (nI (bitN wn k)).toInt64) 6 (mxs (fun k => (nI (z k)).toInt64) 6 739))))), (ik, kw, kh, kr, kt, kc, ko))) 238 [(1, .int (nI i)), (0, .ref (a 0))] [] := by
                          intro fuel
                          induction fuel with
                          | zero => intro i hvi hfu; exact absurd hfu (Nat.not_lt_zero _)
                          | succ fuel ih238 =>
                            intro i hvi hfu
                            refine g_iload_n 238 O dX6_digest_238 rfl 0 rfl ?_
                            refine g_aload_n 239 O dX6_digest_239 rfl 1 rfl ?_
                            refine g_get 240 O (v := .int mpn) inX6 0 rfl rfl 18 (by decide) kf_X6_73 rfl dX6_digest_240 ?_
                            refine g_si (nI pn) (hpn) ?_
                            refine g_icmp_ge 243 O 263 dX6_digest_243 (by decide) (fun h243 => ?_) (fun h243 => ?_)
                            · -- taken
                              have e243 : i = pn := by have := ge_of_le (n := pn) (by omega) (by omega) h243; omega
                              rw [show (mxs (fun k => (pc k).toInt64) i ((fun h => if y.1 = 0 then h else if tl.1 = 0 then dgS z y o hr wn h else dgF z y hr tl hr.1 (dgS z y o hr wn h)) (dgH z y hr wn hr.1 (mxs (fun k => (nI (bitN wn k)).toInt64) 6 (mxs (fun k => (nI (z k)).toInt64) 6 739))))) = mxs (fun k => (pc k).toInt64) pn ((fun h => if y.1 = 0 then h else if tl.1 = 0 then dgS z y o hr wn h else dgF z y hr tl hr.1 (dgS z y o hr wn h)) (dgH z y hr wn hr.1 (mxs (fun k => (nI (bitN wn k)).toInt64) 6 (mxs (fun k => (nI (z k)).toInt64) 6 739)))) from by rw [e243]]
                              refine g_iconst 263 O (v := 0) dX6_digest_263 (by decide) ?_
                              refine g_istore_n 264 O (lv' := [(1, .int 0), (0, .ref (a 0))]) dX6_digest_264 rfl (by decide) rfl ?_
                              refine g_sub [0, 1] (lv' := [(1, .int 0), (0, .ref (a 0))]) rfl ?_
                              have L265 : ∀ (fuel : Nat) (q : Nat) (hvq : q ≤ 10), 10 - q < fuel → G l E (wM E a) P0 X 3 (((mw, msd, mn, mon, mhn, mrd, mtn, mad, mpn), (se, wo, jf, ow, oj, kf, ff, vf, cf, tf, pb), (fat, whl, nw, nwd, njn), (nI (NR y), so', vl', jg'), tko, (sdn, mxs (fun k => (cntN ((wn, rn, sn0, adn), (pn, pc), z, y, o, hr, tl, ib, iw, ir, ih, it) (nI k)).toInt64) q (mxs (fun k => (pc k).toInt64) pn ((fun h => if y.1 = 0 then h else if tl.1 = 0 then dgS z y o hr wn h else dgF z y hr tl hr.1 (dgS z y o hr wn h)) (dgH z y hr wn hr.1 (mxs (fun k => (nI (bitN wn k)).toInt64) 6 (mxs (fun k => (nI (z k)).toInt64) 6 739)))))), (ik, kw, kh, kr, kt, kc, ko))) 265 [(1, .int (nI q)), (0, .ref (a 0))] [] := by
                                intro fuel
                                induction fuel with
                                | zero => intro q hvq hfu; exact absurd hfu (Nat.not_lt_zero _)
                                | succ fuel ih265 =>
                                  intro q hvq hfu
                                  refine g_iload_n 265 O dX6_digest_265 rfl 0 rfl ?_
                                  refine g_bipush 266 O (v := 10) dX6_digest_266 (by decide) ?_
                                  refine g_icmp_ge 268 O 287 dX6_digest_268 (by decide) (fun h268 => ?_) (fun h268 => ?_)
                                  · -- taken
                                    have e268 : q = 10 := by have := ge_of_le (n := 10) (by omega) (by decide) h268; omega
                                    rw [show (mxs (fun k => (cntN ((wn, rn, sn0, adn), (pn, pc), z, y, o, hr, tl, ib, iw, ir, ih, it) (nI k)).toInt64) q (mxs (fun k => (pc k).toInt64) pn ((fun h => if y.1 = 0 then h else if tl.1 = 0 then dgS z y o hr wn h else dgF z y hr tl hr.1 (dgS z y o hr wn h)) (dgH z y hr wn hr.1 (mxs (fun k => (nI (bitN wn k)).toInt64) 6 (mxs (fun k => (nI (z k)).toInt64) 6 739)))))) = mxs (fun k => (cntN ((wn, rn, sn0, adn), (pn, pc), z, y, o, hr, tl, ib, iw, ir, ih, it) (nI k)).toInt64) 10 (mxs (fun k => (pc k).toInt64) pn ((fun h => if y.1 = 0 then h else if tl.1 = 0 then dgS z y o hr wn h else dgF z y hr tl hr.1 (dgS z y o hr wn h)) (dgH z y hr wn hr.1 (mxs (fun k => (nI (bitN wn k)).toInt64) 6 (mxs (fun k => (nI (z k)).toInt64) 6 739))))) from by rw [e268]]
                                    refine g_aload_n 287 O dX6_digest_287 rfl 1 rfl ?_
                                    refine g_get 288 O (v := .long (mxs (fun k => (cntN ((wn, rn, sn0, adn), (pn, pc), z, y, o, hr, tl, ib, iw, ir, ih, it) (nI k)).toInt64) 10 (mxs (fun k => (pc k).toInt64) pn ((fun h => if y.1 = 0 then h else if tl.1 = 0 then dgS z y o hr wn h else dgF z y hr tl hr.1 (dgS z y o hr wn h)) (dgH z y hr wn hr.1 (mxs (fun k => (nI (bitN wn k)).toInt64) 6 (mxs (fun k => (nI (z k)).toInt64) 6 739))))))) inX6 0 rfl rfl 38 (by decide) kf_X6_273 rfl dX6_digest_288 ?_
                                    exact g_lret 291 O dX6_digest_291 (by rw [hP0, A_digest]; exact ⟨_, rfl, rfl, hS9⟩)
                                  · -- not taken
                                    have hlt : q < 10 := lt_of_nge (n := 10) (by omega) h268
                                    refine g_aload_n 271 O dX6_digest_271 rfl 1 rfl ?_
                                    refine g_aload_n 272 O dX6_digest_272 rfl 1 rfl ?_
                                    refine g_iload_n 273 O dX6_digest_273 rfl 0 rfl ?_
                                    refine g_callV 274 O (na := 1) (av := [.int (nI q)]) (c_X6_howMany l E a mw msd mn mon mhn mrd mtn mad mpn se wo jf ow oj kf ff vf cf tf pb fat whl nw nwd njn (nI (NR y)) so' vl' jg' tko sdn (mxs (fun k => (cntN ((wn, rn, sn0, adn), (pn, pc), z, y, o, hr, tl, ib, iw, ir, ih, it) (nI k)).toInt64) q (mxs (fun k => (pc k).toInt64) pn ((fun h => if y.1 = 0 then h else if tl.1 = 0 then dgS z y o hr wn h else dgF z y hr tl hr.1 (dgS z y o hr wn h)) (dgH z y hr wn hr.1 (mxs (fun k => (nI (bitN wn k)).toInt64) 6 (mxs (fun k => (nI (z k)).toInt64) 6 739)))))) ik kw kh kr kt kc ko (nI q) wn rn sn0 adn pn pc z y o hr tl ib iw ir ih it hS9) kl_X6_268 km_X6_howMany kv_X6_howMany ki_X6 kc_X6_howMany (by decide +kernel) rfl (Nat.le_of_ble_eq_true rfl) (Nat.le_of_ble_eq_true rfl) (fun _ h => h) 0 rfl rfl (fun s => s) (fun _ _ _ _ h => h) rfl (Nat.le_of_ble_eq_true rfl) dX6_digest_274 (fun v9 s9 hv9 => ?_)
                                    obtain ⟨rfl, rfl⟩ := hv9
                                    refine g_i2l 277 O dX6_digest_277 ?_
                                    refine g_callV 278 O (na := 1) (av := [.long ((cntN ((wn, rn, sn0, adn), (pn, pc), z, y, o, hr, tl, ib, iw, ir, ih, it) (nI q)).toInt64)]) (c_X6_mix l E a mw msd mn mon mhn mrd mtn mad mpn se wo jf ow oj kf ff vf cf tf pb fat whl nw nwd njn (nI (NR y)) so' vl' jg' tko sdn (mxs (fun k => (cntN ((wn, rn, sn0, adn), (pn, pc), z, y, o, hr, tl, ib, iw, ir, ih, it) (nI k)).toInt64) q (mxs (fun k => (pc k).toInt64) pn ((fun h => if y.1 = 0 then h else if tl.1 = 0 then dgS z y o hr wn h else dgF z y hr tl hr.1 (dgS z y o hr wn h)) (dgH z y hr wn hr.1 (mxs (fun k => (nI (bitN wn k)).toInt64) 6 (mxs (fun k => (nI (z k)).toInt64) 6 739)))))) ik kw kh kr kt kc ko ((cntN ((wn, rn, sn0, adn), (pn, pc), z, y, o, hr, tl, ib, iw, ir, ih, it) (nI q)).toInt64)) kl_X6_278 km_X6_mix kv_X6_mix ki_X6 kc_X6_mix (by decide +kernel) rfl (Nat.le_of_ble_eq_true rfl) (Nat.le_of_ble_eq_true rfl) (fun _ h => h) 0 rfl rfl (fun s => s) (fun _ _ _ _ h => h) rfl (Nat.le_of_ble_eq_true rfl) dX6_digest_278 (fun v9 s9 hv9 => ?_)
                                    obtain ⟨rfl, rfl⟩ := hv9
                                    refine g_iinc 281 O (v := nI (q + 1)) (q := 0) (lv' := [(1, .int (nI (q + 1))), (0, .ref (a 0))]) dX6_digest_281 rfl (nI_1 q) (by decide) rfl ?_
                                    refine g_goto 284 O 265 dX6_digest_284 (by decide) ?_
                                    refine g_sub [0, 1] (lv' := [(1, .int (nI (q + 1))), (0, .ref (a 0))]) rfl ?_
                                    exact ih265 (q + 1) (by omega) (by omega)
                              exact L265 _ 0 (Nat.zero_le _) (Nat.lt_succ_self _)
                            · -- not taken
                              have hlt : i < pn := lt_of_nge (by omega) h243
                              refine g_aload_n 246 O dX6_digest_246 rfl 1 rfl ?_
                              refine g_aload_n 247 O dX6_digest_247 rfl 1 rfl ?_
                              refine g_get 248 O (v := .ref (a 11)) inX6 0 rfl rfl 19 (by decide) kf_X6_40 rfl dX6_digest_248 ?_
                              refine g_iload_n 251 O dX6_digest_251 rfl 0 rfl ?_
                              refine g_bald 252 O 11 i rfl (rfl) (by omega) (by decide) dX6_digest_252 ?_
                              refine g_si (pc i) ((hpb i hlt).1) ?_
                              refine g_i2l 253 O dX6_digest_253 ?_
                              refine g_callV 254 O (na := 1) (av := [.long ((pc i).toInt64)]) (c_X6_mix l E a mw msd mn mon mhn mrd mtn mad mpn se wo jf ow oj kf ff vf cf tf pb fat whl nw nwd njn (nI (NR y)) so' vl' jg' tko sdn (mxs (fun k => (pc k).toInt64) i ((fun h => if y.1 = 0 then h else if tl.1 = 0 then dgS z y o hr wn h else dgF z y hr tl hr.1 (dgS z y o hr wn h)) (dgH z y hr wn hr.1 (mxs (fun k => (nI (bitN wn k)).toInt64) 6 (mxs (fun k => (nI (z k)).toInt64) 6 739))))) ik kw kh kr kt kc ko ((pc i).toInt64)) kl_X6_278 km_X6_mix kv_X6_mix ki_X6 kc_X6_mix (by decide +kernel) rfl (Nat.le_of_ble_eq_true rfl) (Nat.le_of_ble_eq_true rfl) (fun _ h => h) 0 rfl rfl (fun s => s) (fun _ _ _ _ h => h) rfl (Nat.le_of_ble_eq_true rfl) dX6_digest_254 (fun v9 s9 hv9 => ?_)
                              obtain ⟨rfl, rfl⟩ := hv9
                              refine g_iinc 257 O (v := nI (i + 1)) (q := 0) (lv' := [(1, .int (nI (i + 1))), (0, .ref (a 0))]) dX6_digest_257 rfl (nI_1 i) (by decide) rfl ?_
                              refine g_goto 260 O 238 dX6_digest_260 (by decide) ?_
                              refine g_sub [0, 1] (lv' := [(1, .int (nI (i + 1))), (0, .ref (a 0))]) rfl ?_
                              exact ih238 (i + 1) (by omega) (by omega)
                        exact L238 _ 0 (Nat.zero_le _) (Nat.lt_succ_self _)
                    · -- not taken
                      have y0 : ¬ y.1 = 0 := fun e => h113 (by rw [hw, e]; decide)
                      refine g_aload_n 116 O dX6_digest_116 rfl 1 rfl ?_
                      refine g_aload_n 117 O dX6_digest_117 rfl 1 rfl ?_
                      refine g_iconst 118 O (v := 0) dX6_digest_118 (by decide) ?_
                      refine g_callV 119 O (na := 1) (av := [.int 0]) (c_X6_comeNow l E a mw msd mn mon mhn mrd mtn mad mpn se wo jf ow oj kf ff vf cf tf pb fat whl nw nwd njn (nI (NR y)) so' vl' jg' tko sdn (dgH z y hr wn hr.1 (mxs (fun k => (nI (bitN wn k)).toInt64) 6 (mxs (fun k => (nI (z k)).toInt64) 6 739))) ik kw kh kr kt kc ko 0 y z hy.1 rfl hso wn hwn hwn0) kl_X6_165 km_X6_comeNow kv_X6_comeNow ki_X6 kc_X6_comeNow (by decide +kernel) rfl (Nat.le_of_ble_eq_true rfl) (Nat.le_of_ble_eq_true rfl) (fun _ h => h) 0 rfl rfl (fun s => s) (fun _ _ _ _ h => h) rfl (Nat.le_of_ble_eq_true rfl) dX6_digest_119 (fun v9 s9 hv9 => ?_)
                      obtain ⟨rfl, rfl⟩ := hv9
                      refine g_i2l 122 O dX6_digest_122 ?_
                      refine g_callV 123 O (na := 1) (av := [.long ((comN z y wn 0).toInt64)]) (c_X6_mix l E a mw msd mn mon mhn mrd mtn mad mpn se wo jf ow oj kf ff vf cf tf pb fat whl nw nwd njn (nI (NR y)) so' vl' jg' tko sdn (dgH z y hr wn hr.1 (mxs (fun k => (nI (bitN wn k)).toInt64) 6 (mxs (fun k => (nI (z k)).toInt64) 6 739))) ik kw kh kr kt kc ko ((comN z y wn 0).toInt64)) kl_X6_278 km_X6_mix kv_X6_mix ki_X6 kc_X6_mix (by decide +kernel) rfl (Nat.le_of_ble_eq_true rfl) (Nat.le_of_ble_eq_true rfl) (fun _ h => h) 0 rfl rfl (fun s => s) (fun _ _ _ _ h => h) rfl (Nat.le_of_ble_eq_true rfl) dX6_digest_123 (fun v9 s9 hv9 => ?_)
                      obtain ⟨rfl, rfl⟩ := hv9
                      refine g_aload_n 126 O dX6_digest_126 rfl 1 rfl ?_
                      refine g_aload_n 127 O dX6_digest_127 rfl 1 rfl ?_
                      refine g_iconst 128 O (v := 1) dX6_digest_128 (by decide) ?_
                      refine g_callV 129 O (na := 1) (av := [.int 1]) (c_X6_comeNow l E a mw msd mn mon mhn mrd mtn mad mpn se wo jf ow oj kf ff vf cf tf pb fat whl nw nwd njn (nI (NR y)) so' vl' jg' tko sdn (31 * (dgH z y hr wn hr.1 (mxs (fun k => (nI (bitN wn k)).toInt64) 6 (mxs (fun k => (nI (z k)).toInt64) 6 739))) + ((comN z y wn 0).toInt64)) ik kw kh kr kt kc ko 1 y z hy.1 rfl hso wn hwn hwn0) kl_X6_165 km_X6_comeNow kv_X6_comeNow ki_X6 kc_X6_comeNow (by decide +kernel) rfl (Nat.le_of_ble_eq_true rfl) (Nat.le_of_ble_eq_true rfl) (fun _ h => h) 0 rfl rfl (fun s => s) (fun _ _ _ _ h => h) rfl (Nat.le_of_ble_eq_true rfl) dX6_digest_129 (fun v9 s9 hv9 => ?_)
                      obtain ⟨rfl, rfl⟩ := hv9
                      refine g_i2l 132 O dX6_digest_132 ?_
                      refine g_callV 133 O (na := 1) (av := [.long ((comN z y wn 1).toInt64)]) (c_X6_mix l E a mw msd mn mon mhn mrd mtn mad mpn se wo jf ow oj kf ff vf cf tf pb fat whl nw nwd njn (nI (NR y)) so' vl' jg' tko sdn (31 * (dgH z y hr wn hr.1 (mxs (fun k => (nI (bitN wn k)).toInt64) 6 (mxs (fun k => (nI (z k)).toInt64) 6 739))) + ((comN z y wn 0).toInt64)) ik kw kh kr kt kc ko ((comN z y wn 1).toInt64)) kl_X6_278 km_X6_mix kv_X6_mix ki_X6 kc_X6_mix (by decide +kernel) rfl (Nat.le_of_ble_eq_true rfl) (Nat.le_of_ble_eq_true rfl) (fun _ h => h) 0 rfl rfl (fun s => s) (fun _ _ _ _ h => h) rfl (Nat.le_of_ble_eq_true rfl) dX6_digest_133 (fun v9 s9 hv9 => ?_)
                      obtain ⟨rfl, rfl⟩ := hv9
                      refine g_aload_n 136 O dX6_digest_136 rfl 1 rfl ?_
                      refine g_aload_n 137 O dX6_digest_137 rfl 1 rfl ?_
                      refine g_callV 138 O (na := 0) (av := []) (c_X6_anyhowNow l E a mw msd mn mon mhn mrd mtn mad mpn se wo jf ow oj kf ff vf cf tf pb fat whl nw nwd njn (nI (NR y)) so' vl' jg' tko sdn (31 * (31 * (dgH z y hr wn hr.1 (mxs (fun k => (nI (bitN wn k)).toInt64) 6 (mxs (fun k => (nI (z k)).toInt64) 6 739))) + ((comN z y wn 0).toInt64)) + ((comN z y wn 1).toInt64)) ik kw kh kr kt kc ko y z hw hy hz hr hh y0) kl_X6_210 km_X6_anyhowNow kv_X6_anyhowNow ki_X6 kc_X6_anyhowNow (by decide +kernel) rfl (Nat.le_of_ble_eq_true rfl) (Nat.le_of_ble_eq_true rfl) (fun _ h => h) 0 rfl rfl (fun s => s) (fun _ _ _ _ h => h) rfl (Nat.le_of_ble_eq_true rfl) dX6_digest_138 (fun v9 s9 hv9 => ?_)
                      obtain ⟨r9, rfl, rfl, so', vl', jg', tko', rfl, hso⟩ := hv9
                      refine g_i2l 141 O dX6_digest_141 ?_
                      refine g_callV 142 O (na := 1) (av := [.long ((nI (anyN z y hr)).toInt64)]) (c_X6_mix l E a mw msd mn mon mhn mrd mtn mad mpn se wo jf ow oj kf ff vf cf tf pb fat whl nw nwd njn (nI (NR y)) so' vl' jg' tko' sdn (31 * (31 * (dgH z y hr wn hr.1 (mxs (fun k => (nI (bitN wn k)).toInt64) 6 (mxs (fun k => (nI (z k)).toInt64) 6 739))) + ((comN z y wn 0).toInt64)) + ((comN z y wn 1).toInt64)) ik kw kh kr kt kc ko ((nI (anyN z y hr)).toInt64)) kl_X6_278 km_X6_mix kv_X6_mix ki_X6 kc_X6_mix (by decide +kernel) rfl (Nat.le_of_ble_eq_true rfl) (Nat.le_of_ble_eq_true rfl) (fun _ h => h) 0 rfl rfl (fun s => s) (fun _ _ _ _ h => h) rfl (Nat.le_of_ble_eq_true rfl) dX6_digest_142 (fun v9 s9 hv9 => ?_)
                      obtain ⟨rfl, rfl⟩ := hv9
                      refine g_aload_n 145 O dX6_digest_145 rfl 1 rfl ?_
                      refine g_aload_n 146 O dX6_digest_146 rfl 1 rfl ?_
                      refine g_iconst 147 O (v := 0) dX6_digest_147 (by decide) ?_
                      refine g_callV 148 O (na := 1) (av := [.int 0]) (c_X6_leftNow l E a mw msd mn mon mhn mrd mtn mad mpn se wo jf ow oj kf ff vf cf tf pb fat whl nw nwd njn (nI (NR y)) so' vl' jg' tko' sdn (31 * (31 * (31 * (dgH z y hr wn hr.1 (mxs (fun k => (nI (bitN wn k)).toInt64) 6 (mxs (fun k => (nI (z k)).toInt64) 6 739))) + ((comN z y wn 0).toInt64)) + ((comN z y wn 1).toInt64)) + ((nI (anyN z y hr)).toInt64)) ik kw kh kr kt kc ko 0 y z hw hy hz o ho hyo) kl_X6_214 km_X6_leftNow kv_X6_leftNow ki_X6 kc_X6_leftNow (by decide +kernel) rfl (Nat.le_of_ble_eq_true rfl) (Nat.le_of_ble_eq_true rfl) (fun _ h => h) 0 rfl rfl (fun s => s) (fun _ _ _ _ h => h) rfl (Nat.le_of_ble_eq_true rfl) dX6_digest_148 (fun v9 s9 hv9 => ?_)
                      obtain ⟨r9, rfl, rfl, so', vl', jg', rfl, hso⟩ := hv9
                      refine g_i2l 151 O dX6_digest_151 ?_
                      refine g_callV 152 O (na := 1) (av := [.long ((lefN z y o 0).toInt64)]) (c_X6_mix l E a mw msd mn mon mhn mrd mtn mad mpn se wo jf ow oj kf ff vf cf tf pb fat whl nw nwd njn (nI (NR y)) so' vl' jg' tko' sdn (31 * (31 * (31 * (dgH z y hr wn hr.1 (mxs (fun k => (nI (bitN wn k)).toInt64) 6 (mxs (fun k => (nI (z k)).toInt64) 6 739))) + ((comN z y wn 0).toInt64)) + ((comN z y wn 1).toInt64)) + ((nI (anyN z y hr)).toInt64)) ik kw kh kr kt kc ko ((lefN z y o 0).toInt64)) kl_X6_278 km_X6_mix kv_X6_mix ki_X6 kc_X6_mix (by decide +kernel) rfl (Nat.le_of_ble_eq_true rfl) (Nat.le_of_ble_eq_true rfl) (fun _ h => h) 0 rfl rfl (fun s => s) (fun _ _ _ _ h => h) rfl (Nat.le_of_ble_eq_true rfl) dX6_digest_152 (fun v9 s9 hv9 => ?_)
                      obtain ⟨rfl, rfl⟩ := hv9
                      refine g_aload_n 155 O dX6_digest_155 rfl 1 rfl ?_
                      refine g_aload_n 156 O dX6_digest_156 rfl 1 rfl ?_
                      refine g_iconst 157 O (v := 1) dX6_digest_157 (by decide) ?_
                      refine g_callV 158 O (na := 1) (av := [.int 1]) (c_X6_leftNow l E a mw msd mn mon mhn mrd mtn mad mpn se wo jf ow oj kf ff vf cf tf pb fat whl nw nwd njn (nI (NR y)) so' vl' jg' tko' sdn (31 * (31 * (31 * (31 * (dgH z y hr wn hr.1 (mxs (fun k => (nI (bitN wn k)).toInt64) 6 (mxs (fun k => (nI (z k)).toInt64) 6 739))) + ((comN z y wn 0).toInt64)) + ((comN z y wn 1).toInt64)) + ((nI (anyN z y hr)).toInt64)) + ((lefN z y o 0).toInt64)) ik kw kh kr kt kc ko 1 y z hw hy hz o ho hyo) kl_X6_214 km_X6_leftNow kv_X6_leftNow ki_X6 kc_X6_leftNow (by decide +kernel) rfl (Nat.le_of_ble_eq_true rfl) (Nat.le_of_ble_eq_true rfl) (fun _ h => h) 0 rfl rfl (fun s => s) (fun _ _ _ _ h => h) rfl (Nat.le_of_ble_eq_true rfl) dX6_digest_158 (fun v9 s9 hv9 => ?_)
                      obtain ⟨r9, rfl, rfl, so', vl', jg', rfl, hso⟩ := hv9
                      refine g_i2l 161 O dX6_digest_161 ?_
                      refine g_callV 162 O (na := 1) (av := [.long ((lefN z y o 1).toInt64)]) (c_X6_mix l E a mw msd mn mon mhn mrd mtn mad mpn se wo jf ow oj kf ff vf cf tf pb fat whl nw nwd njn (nI (NR y)) so' vl' jg' tko' sdn (31 * (31 * (31 * (31 * (dgH z y hr wn hr.1 (mxs (fun k => (nI (bitN wn k)).toInt64) 6 (mxs (fun k => (nI (z k)).toInt64) 6 739))) + ((comN z y wn 0).toInt64)) + ((comN z y wn 1).toInt64)) + ((nI (anyN z y hr)).toInt64)) + ((lefN z y o 0).toInt64)) ik kw kh kr kt kc ko ((lefN z y o 1).toInt64)) kl_X6_278 km_X6_mix kv_X6_mix ki_X6 kc_X6_mix (by decide +kernel) rfl (Nat.le_of_ble_eq_true rfl) (Nat.le_of_ble_eq_true rfl) (fun _ h => h) 0 rfl rfl (fun s => s) (fun _ _ _ _ h => h) rfl (Nat.le_of_ble_eq_true rfl) dX6_digest_162 (fun v9 s9 hv9 => ?_)
                      obtain ⟨rfl, rfl⟩ := hv9
                      refine g_aload_n 165 O dX6_digest_165 rfl 1 rfl ?_
                      refine g_aload_n 166 O dX6_digest_166 rfl 1 rfl ?_
                      refine g_iconst 167 O (v := 2) dX6_digest_167 (by decide) ?_
                      refine g_callV 168 O (na := 1) (av := [.int 2]) (c_X6_leftNow l E a mw msd mn mon mhn mrd mtn mad mpn se wo jf ow oj kf ff vf cf tf pb fat whl nw nwd njn (nI (NR y)) so' vl' jg' tko' sdn (31 * (31 * (31 * (31 * (31 * (dgH z y hr wn hr.1 (mxs (fun k => (nI (bitN wn k)).toInt64) 6 (mxs (fun k => (nI (z k)).toInt64) 6 739))) + ((comN z y wn 0).toInt64)) + ((comN z y wn 1).toInt64)) + ((nI (anyN z y hr)).toInt64)) + ((lefN z y o 0).toInt64)) + ((lefN z y o 1).toInt64)) ik kw kh kr kt kc ko 2 y z hw hy hz o ho hyo) kl_X6_214 km_X6_leftNow kv_X6_leftNow ki_X6 kc_X6_leftNow (by decide +kernel) rfl (Nat.le_of_ble_eq_true rfl) (Nat.le_of_ble_eq_true rfl) (fun _ h => h) 0 rfl rfl (fun s => s) (fun _ _ _ _ h => h) rfl (Nat.le_of_ble_eq_true rfl) dX6_digest_168 (fun v9 s9 hv9 => ?_)
                      obtain ⟨r9, rfl, rfl, so', vl', jg', rfl, hso⟩ := hv9
                      refine g_i2l 171 O dX6_digest_171 ?_
                      refine g_callV 172 O (na := 1) (av := [.long ((lefN z y o 2).toInt64)]) (c_X6_mix l E a mw msd mn mon mhn mrd mtn mad mpn se wo jf ow oj kf ff vf cf tf pb fat whl nw nwd njn (nI (NR y)) so' vl' jg' tko' sdn (31 * (31 * (31 * (31 * (31 * (dgH z y hr wn hr.1 (mxs (fun k => (nI (bitN wn k)).toInt64) 6 (mxs (fun k => (nI (z k)).toInt64) 6 739))) + ((comN z y wn 0).toInt64)) + ((comN z y wn 1).toInt64)) + ((nI (anyN z y hr)).toInt64)) + ((lefN z y o 0).toInt64)) + ((lefN z y o 1).toInt64)) ik kw kh kr kt kc ko ((lefN z y o 2).toInt64)) kl_X6_278 km_X6_mix kv_X6_mix ki_X6 kc_X6_mix (by decide +kernel) rfl (Nat.le_of_ble_eq_true rfl) (Nat.le_of_ble_eq_true rfl) (fun _ h => h) 0 rfl rfl (fun s => s) (fun _ _ _ _ h => h) rfl (Nat.le_of_ble_eq_true rfl) dX6_digest_172 (fun v9 s9 hv9 => ?_)
                      obtain ⟨rfl, rfl⟩ := hv9
                      refine g_aload_n 175 O dX6_digest_175 rfl 1 rfl ?_
                      refine g_aload_n 176 O dX6_digest_176 rfl 1 rfl ?_
                      refine g_callV 177 O (na := 0) (av := []) (c_X6_askNow l E a mw msd mn mon mhn mrd mtn mad mpn se wo jf ow oj kf ff vf cf tf pb fat whl nw nwd njn (nI (NR y)) so' vl' jg' tko' sdn (31 * (31 * (31 * (31 * (31 * (31 * (dgH z y hr wn hr.1 (mxs (fun k => (nI (bitN wn k)).toInt64) 6 (mxs (fun k => (nI (z k)).toInt64) 6 739))) + ((comN z y wn 0).toInt64)) + ((comN z y wn 1).toInt64)) + ((nI (anyN z y hr)).toInt64)) + ((lefN z y o 0).toInt64)) + ((lefN z y o 1).toInt64)) + ((lefN z y o 2).toInt64)) ik kw kh kr kt kc ko y z hw hy hz) kl_X6_217 km_X6_askNow kv_X6_askNow ki_X6 kc_X6_askNow (by decide +kernel) rfl (Nat.le_of_ble_eq_true rfl) (Nat.le_of_ble_eq_true rfl) (fun _ h => h) 0 rfl rfl (fun s => s) (fun _ _ _ _ h => h) rfl (Nat.le_of_ble_eq_true rfl) dX6_digest_177 (fun v9 s9 hv9 => ?_)
                      obtain ⟨r9, rfl, rfl, so', vl', jg', rfl, hso⟩ := hv9
                      refine g_i2l 180 O dX6_digest_180 ?_
                      refine g_callV 181 O (na := 1) (av := [.long ((nI (askN z y)).toInt64)]) (c_X6_mix l E a mw msd mn mon mhn mrd mtn mad mpn se wo jf ow oj kf ff vf cf tf pb fat whl nw nwd njn (nI (NR y)) so' vl' jg' tko' sdn (31 * (31 * (31 * (31 * (31 * (31 * (dgH z y hr wn hr.1 (mxs (fun k => (nI (bitN wn k)).toInt64) 6 (mxs (fun k => (nI (z k)).toInt64) 6 739))) + ((comN z y wn 0).toInt64)) + ((comN z y wn 1).toInt64)) + ((nI (anyN z y hr)).toInt64)) + ((lefN z y o 0).toInt64)) + ((lefN z y o 1).toInt64)) + ((lefN z y o 2).toInt64)) ik kw kh kr kt kc ko ((nI (askN z y)).toInt64)) kl_X6_278 km_X6_mix kv_X6_mix ki_X6 kc_X6_mix (by decide +kernel) rfl (Nat.le_of_ble_eq_true rfl) (Nat.le_of_ble_eq_true rfl) (fun _ h => h) 0 rfl rfl (fun s => s) (fun _ _ _ _ h => h) rfl (Nat.le_of_ble_eq_true rfl) dX6_digest_181 (fun v9 s9 hv9 => ?_)
                      obtain ⟨rfl, rfl⟩ := hv9
                      rw [show (31 * (31 * (31 * (31 * (31 * (31 * (31 * (dgH z y hr wn hr.1 (mxs (fun k => (nI (bitN wn k)).toInt64) 6 (mxs (fun k => (nI (z k)).toInt64) 6 739))) + ((comN z y wn 0).toInt64)) + ((comN z y wn 1).toInt64)) + ((nI (anyN z y hr)).toInt64)) + ((lefN z y o 0).toInt64)) + ((lefN z y o 1).toInt64)) + ((lefN z y o 2).toInt64)) + ((nI (askN z y)).toInt64)) = (dgS z y o hr wn (dgH z y hr wn hr.1 (mxs (fun k => (nI (bitN wn k)).toInt64) 6 (mxs (fun k => (nI (z k)).toInt64) 6 739)))) from rfl]
                      rcases Nat.eq_zero_or_pos tl.1 with t0 | t0
                      · -- T0
                        refine g_iconst 184 O (v := 0) dX6_digest_184 (by decide) ?_
                        refine g_istore_n 185 O (lv' := [(1, .int 0), (0, .ref (a 0))]) dX6_digest_185 rfl (by decide) rfl ?_
                        refine g_iload_n 186 O dX6_digest_186 rfl 0 rfl ?_
                        refine g_aload_n 187 O dX6_digest_187 rfl 1 rfl ?_
                        refine g_get 188 O (v := .int mhn) inX6 0 rfl rfl 9 (by decide) kf_X6_175 rfl dX6_digest_188 ?_
                        refine g_icmp_ge 191 O 236 dX6_digest_191 (by decide) (fun h191 => ?_) (fun h191 => ?_)
                        · -- taken
                          rw [show ((dgS z y o hr wn (dgH z y hr wn hr.1 (mxs (fun k => (nI (bitN wn k)).toInt64) 6 (mxs (fun k => (nI (z k)).toInt64) 6 739))))) = ((fun h => if y.1 = 0 then h else if tl.1 = 0 then dgS z y o hr wn h else dgF z y hr tl hr.1 (dgS z y o hr wn h)) (dgH z y hr wn hr.1 (mxs (fun k => (nI (bitN wn k)).toInt64) 6 (mxs (fun k => (nI (z k)).toInt64) 6 739)))) from by show _ = (if y.1 = 0 then _ else if tl.1 = 0 then _ else _); rw [if_neg y0, if_pos t0]]
                          refine g_iconst 236 O (v := 0) dX6_digest_236 (by decide) ?_
                          refine g_istore_n 237 O (lv' := [(1, .int 0), (0, .ref (a 0))]) dX6_digest_237 rfl (by decide) rfl ?_
                          refine g_sub [0, 1] (lv' := [(1, .int 0), (0, .ref (a 0))]) rfl ?_
                          have L238 : ∀ (fuel : Nat) (i : Nat) (hvi : i ≤ pn), pn - i < fuel → G l E (wM E a) P0 X 3 (((mw, msd, mn, mon, mhn, mrd, mtn, mad, mpn), (se, wo, jf, ow, oj, kf, ff, vf, cf, tf, pb), (fat, whl, nw, nwd, njn), (nI (NR y), so', vl', jg'), tko', (sdn, mxs (fun k => (pc k).toInt64) i ((fun h => if y.1 = 0 then h else if tl.1 = 0 then dgS z y o hr wn h else dgF z y hr tl hr.1 (dgS z y o hr wn h)) (dgH z y hr wn hr.1 (mxs (fun k => (nI (bitN wn k)).toInt64) 6 (mxs (fun k => (nI (z k)).toInt64) 6 739))))), (ik, kw, kh, kr, kt, kc, ko))) 238 [(1, .int (nI i)), (0, .ref (a 0))] [] := by
                            intro fuel
                            induction fuel with
                            | zero => intro i hvi hfu; exact absurd hfu (Nat.not_lt_zero _)
                            | succ fuel ih238 =>
                              intro i hvi hfu
                              refine g_iload_n 238 O dX6_digest_238 rfl 0 rfl ?_
                              refine g_aload_n 239 O dX6_digest_239 rfl 1 rfl ?_
                              refine g_get 240 O (v := .int mpn) inX6 0 rfl rfl 18 (by decide) kf_X6_73 rfl dX6_digest_240 ?_
                              refine g_si (nI pn) (hpn) ?_
                              refine g_icmp_ge 243 O 263 dX6_digest_243 (by decide) (fun h243 => ?_) (fun h243 => ?_)
                              · -- taken
                                have e243 : i = pn := by have := ge_of_le (n := pn) (by omega) (by omega) h243; omega
                                rw [show (mxs (fun k => (pc k).toInt64) i ((fun h => if y.1 = 0 then h else if tl.1 = 0 then dgS z y o hr wn h else dgF z y hr tl hr.1 (dgS z y o hr wn h)) (dgH z y hr wn hr.1 (mxs (fun k => (nI (bitN wn k)).toInt64) 6 (mxs (fun k => (nI (z k)).toInt64) 6 739))))) = mxs (fun k => (pc k).toInt64) pn ((fun h => if y.1 = 0 then h else if tl.1 = 0 then dgS z y o hr wn h else dgF z y hr tl hr.1 (dgS z y o hr wn h)) (dgH z y hr wn hr.1 (mxs (fun k => (nI (bitN wn k)).toInt64) 6 (mxs (fun k => (nI (z k)).toInt64) 6 739)))) from by rw [e243]]
                                refine g_iconst 263 O (v := 0) dX6_digest_263 (by decide) ?_
                                refine g_istore_n 264 O (lv' := [(1, .int 0), (0, .ref (a 0))]) dX6_digest_264 rfl (by decide) rfl ?_
                                refine g_sub [0, 1] (lv' := [(1, .int 0), (0, .ref (a 0))]) rfl ?_
                                have L265 : ∀ (fuel : Nat) (q : Nat) (hvq : q ≤ 10), 10 - q < fuel → G l E (wM E a) P0 X 3 (((mw, msd, mn, mon, mhn, mrd, mtn, mad, mpn), (se, wo, jf, ow, oj, kf, ff, vf, cf, tf, pb), (fat, whl, nw, nwd, njn), (nI (NR y), so', vl', jg'), tko', (sdn, mxs (fun k => (cntN ((wn, rn, sn0, adn), (pn, pc), z, y, o, hr, tl, ib, iw, ir, ih, it) (nI k)).toInt64) q (mxs (fun k => (pc k).toInt64) pn ((fun h => if y.1 = 0 then h else if tl.1 = 0 then dgS z y o hr wn h else dgF z y hr tl hr.1 (dgS z y o hr wn h)) (dgH z y hr wn hr.1 (mxs (fun k => (nI (bitN wn k)).toInt64) 6 (mxs (fun k => (nI (z k)).toInt64) 6 739)))))), (ik, kw, kh, kr, kt, kc, ko))) 265 [(1, .int (nI q)), (0, .ref (a 0))] [] := by
                                  intro fuel
                                  induction fuel with
                                  | zero => intro q hvq hfu; exact absurd hfu (Nat.not_lt_zero _)
                                  | succ fuel ih265 =>
                                    intro q hvq hfu
                                    refine g_iload_n 265 O dX6_digest_265 rfl 0 rfl ?_
                                    refine g_bipush 266 O (v := 10) dX6_digest_266 (by decide) ?_
                                    refine g_icmp_ge 268 O 287 dX6_digest_268 (by decide) (fun h268 => ?_) (fun h268 => ?_)
                                    · -- taken
                                      have e268 : q = 10 := by have := ge_of_le (n := 10) (by omega) (by decide) h268; omega
                                      rw [show (mxs (fun k => (cntN ((wn, rn, sn0, adn), (pn, pc), z, y, o, hr, tl, ib, iw, ir, ih, it) (nI k)).toInt64) q (mxs (fun k => (pc k).toInt64) pn ((fun h => if y.1 = 0 then h else if tl.1 = 0 then dgS z y o hr wn h else dgF z y hr tl hr.1 (dgS z y o hr wn h)) (dgH z y hr wn hr.1 (mxs (fun k => (nI (bitN wn k)).toInt64) 6 (mxs (fun k => (nI (z k)).toInt64) 6 739)))))) = mxs (fun k => (cntN ((wn, rn, sn0, adn), (pn, pc), z, y, o, hr, tl, ib, iw, ir, ih, it) (nI k)).toInt64) 10 (mxs (fun k => (pc k).toInt64) pn ((fun h => if y.1 = 0 then h else if tl.1 = 0 then dgS z y o hr wn h else dgF z y hr tl hr.1 (dgS z y o hr wn h)) (dgH z y hr wn hr.1 (mxs (fun k => (nI (bitN wn k)).toInt64) 6 (mxs (fun k => (nI (z k)).toInt64) 6 739))))) from by rw [e268]]
                                      refine g_aload_n 287 O dX6_digest_287 rfl 1 rfl ?_
                                      refine g_get 288 O (v := .long (mxs (fun k => (cntN ((wn, rn, sn0, adn), (pn, pc), z, y, o, hr, tl, ib, iw, ir, ih, it) (nI k)).toInt64) 10 (mxs (fun k => (pc k).toInt64) pn ((fun h => if y.1 = 0 then h else if tl.1 = 0 then dgS z y o hr wn h else dgF z y hr tl hr.1 (dgS z y o hr wn h)) (dgH z y hr wn hr.1 (mxs (fun k => (nI (bitN wn k)).toInt64) 6 (mxs (fun k => (nI (z k)).toInt64) 6 739))))))) inX6 0 rfl rfl 38 (by decide) kf_X6_273 rfl dX6_digest_288 ?_
                                      exact g_lret 291 O dX6_digest_291 (by rw [hP0, A_digest]; exact ⟨_, rfl, rfl, hS9⟩)
                                    · -- not taken
                                      have hlt : q < 10 := lt_of_nge (n := 10) (by omega) h268
                                      refine g_aload_n 271 O dX6_digest_271 rfl 1 rfl ?_
                                      refine g_aload_n 272 O dX6_digest_272 rfl 1 rfl ?_
                                      refine g_iload_n 273 O dX6_digest_273 rfl 0 rfl ?_
                                      refine g_callV 274 O (na := 1) (av := [.int (nI q)]) (c_X6_howMany l E a mw msd mn mon mhn mrd mtn mad mpn se wo jf ow oj kf ff vf cf tf pb fat whl nw nwd njn (nI (NR y)) so' vl' jg' tko' sdn (mxs (fun k => (cntN ((wn, rn, sn0, adn), (pn, pc), z, y, o, hr, tl, ib, iw, ir, ih, it) (nI k)).toInt64) q (mxs (fun k => (pc k).toInt64) pn ((fun h => if y.1 = 0 then h else if tl.1 = 0 then dgS z y o hr wn h else dgF z y hr tl hr.1 (dgS z y o hr wn h)) (dgH z y hr wn hr.1 (mxs (fun k => (nI (bitN wn k)).toInt64) 6 (mxs (fun k => (nI (z k)).toInt64) 6 739)))))) ik kw kh kr kt kc ko (nI q) wn rn sn0 adn pn pc z y o hr tl ib iw ir ih it hS9) kl_X6_268 km_X6_howMany kv_X6_howMany ki_X6 kc_X6_howMany (by decide +kernel) rfl (Nat.le_of_ble_eq_true rfl) (Nat.le_of_ble_eq_true rfl) (fun _ h => h) 0 rfl rfl (fun s => s) (fun _ _ _ _ h => h) rfl (Nat.le_of_ble_eq_true rfl) dX6_digest_274 (fun v9 s9 hv9 => ?_)
                                      obtain ⟨rfl, rfl⟩ := hv9
                                      refine g_i2l 277 O dX6_digest_277 ?_
                                      refine g_callV 278 O (na := 1) (av := [.long ((cntN ((wn, rn, sn0, adn), (pn, pc), z, y, o, hr, tl, ib, iw, ir, ih, it) (nI q)).toInt64)]) (c_X6_mix l E a mw msd mn mon mhn mrd mtn mad mpn se wo jf ow oj kf ff vf cf tf pb fat whl nw nwd njn (nI (NR y)) so' vl' jg' tko' sdn (mxs (fun k => (cntN ((wn, rn, sn0, adn), (pn, pc), z, y, o, hr, tl, ib, iw, ir, ih, it) (nI k)).toInt64) q (mxs (fun k => (pc k).toInt64) pn ((fun h => if y.1 = 0 then h else if tl.1 = 0 then dgS z y o hr wn h else dgF z y hr tl hr.1 (dgS z y o hr wn h)) (dgH z y hr wn hr.1 (mxs (fun k => (nI (bitN wn k)).toInt64) 6 (mxs (fun k => (nI (z k)).toInt64) 6 739)))))) ik kw kh kr kt kc ko ((cntN ((wn, rn, sn0, adn), (pn, pc), z, y, o, hr, tl, ib, iw, ir, ih, it) (nI q)).toInt64)) kl_X6_278 km_X6_mix kv_X6_mix ki_X6 kc_X6_mix (by decide +kernel) rfl (Nat.le_of_ble_eq_true rfl) (Nat.le_of_ble_eq_true rfl) (fun _ h => h) 0 rfl rfl (fun s => s) (fun _ _ _ _ h => h) rfl (Nat.le_of_ble_eq_true rfl) dX6_digest_278 (fun v9 s9 hv9 => ?_)
                                      obtain ⟨rfl, rfl⟩ := hv9
                                      refine g_iinc 281 O (v := nI (q + 1)) (q := 0) (lv' := [(1, .int (nI (q + 1))), (0, .ref (a 0))]) dX6_digest_281 rfl (nI_1 q) (by decide) rfl ?_
                                      refine g_goto 284 O 265 dX6_digest_284 (by decide) ?_
                                      refine g_sub [0, 1] (lv' := [(1, .int (nI (q + 1))), (0, .ref (a 0))]) rfl ?_
                                      exact ih265 (q + 1) (by omega) (by omega)
                                exact L265 _ 0 (Nat.zero_le _) (Nat.lt_succ_self _)
                              · -- not taken
                                have hlt : i < pn := lt_of_nge (by omega) h243
                                refine g_aload_n 246 O dX6_digest_246 rfl 1 rfl ?_
                                refine g_aload_n 247 O dX6_digest_247 rfl 1 rfl ?_
                                refine g_get 248 O (v := .ref (a 11)) inX6 0 rfl rfl 19 (by decide) kf_X6_40 rfl dX6_digest_248 ?_
                                refine g_iload_n 251 O dX6_digest_251 rfl 0 rfl ?_
                                refine g_bald 252 O 11 i rfl (rfl) (by omega) (by decide) dX6_digest_252 ?_
                                refine g_si (pc i) ((hpb i hlt).1) ?_
                                refine g_i2l 253 O dX6_digest_253 ?_
                                refine g_callV 254 O (na := 1) (av := [.long ((pc i).toInt64)]) (c_X6_mix l E a mw msd mn mon mhn mrd mtn mad mpn se wo jf ow oj kf ff vf cf tf pb fat whl nw nwd njn (nI (NR y)) so' vl' jg' tko' sdn (mxs (fun k => (pc k).toInt64) i ((fun h => if y.1 = 0 then h else if tl.1 = 0 then dgS z y o hr wn h else dgF z y hr tl hr.1 (dgS z y o hr wn h)) (dgH z y hr wn hr.1 (mxs (fun k => (nI (bitN wn k)).toInt64) 6 (mxs (fun k => (nI (z k)).toInt64) 6 739))))) ik kw kh kr kt kc ko ((pc i).toInt64)) kl_X6_278 km_X6_mix kv_X6_mix ki_X6 kc_X6_mix (by decide +kernel) rfl (Nat.le_of_ble_eq_true rfl) (Nat.le_of_ble_eq_true rfl) (fun _ h => h) 0 rfl rfl (fun s => s) (fun _ _ _ _ h => h) rfl (Nat.le_of_ble_eq_true rfl) dX6_digest_254 (fun v9 s9 hv9 => ?_)
                                obtain ⟨rfl, rfl⟩ := hv9
                                refine g_iinc 257 O (v := nI (i + 1)) (q := 0) (lv' := [(1, .int (nI (i + 1))), (0, .ref (a 0))]) dX6_digest_257 rfl (nI_1 i) (by decide) rfl ?_
                                refine g_goto 260 O 238 dX6_digest_260 (by decide) ?_
                                refine g_sub [0, 1] (lv' := [(1, .int (nI (i + 1))), (0, .ref (a 0))]) rfl ?_
                                exact ih238 (i + 1) (by omega) (by omega)
                          exact L238 _ 0 (Nat.zero_le _) (Nat.lt_succ_self _)
                        · -- not taken
                          refine g_aload_n 194 O dX6_digest_194 rfl 1 rfl ?_
                          refine g_get 195 O (v := .int mn) inX6 0 rfl rfl 3 (by decide) kf_X6_97 rfl dX6_digest_195 ?_
                          refine g_if_le 198 O 236 dX6_digest_198 (by decide) (fun h198 => False.elim (y0 (Nat.le_zero.mp (ge_of_le (n := y.1) (i := 0) (by decide) (by have := hy.1; omega) (hw ▸ h198))))) (fun h198 => ?_)
                          refine g_aload_n 201 O dX6_digest_201 rfl 1 rfl ?_
                          refine g_get 202 O (v := .int mtn) inX6 0 rfl rfl 15 (by decide) kf_X6_226 rfl dX6_digest_202 ?_
                          refine g_if_le 205 O 236 dX6_digest_205 (by decide) (fun h205 => ?_) (fun h205 => False.elim (h205 (by rw [show mtn = nI tl.1 from ht.1, t0]; decide)))
                          rw [show ((dgS z y o hr wn (dgH z y hr wn hr.1 (mxs (fun k => (nI (bitN wn k)).toInt64) 6 (mxs (fun k => (nI (z k)).toInt64) 6 739))))) = ((fun h => if y.1 = 0 then h else if tl.1 = 0 then dgS z y o hr wn h else dgF z y hr tl hr.1 (dgS z y o hr wn h)) (dgH z y hr wn hr.1 (mxs (fun k => (nI (bitN wn k)).toInt64) 6 (mxs (fun k => (nI (z k)).toInt64) 6 739)))) from by show _ = (if y.1 = 0 then _ else if tl.1 = 0 then _ else _); rw [if_neg y0, if_pos t0]]
                          refine g_iconst 236 O (v := 0) dX6_digest_236 (by decide) ?_
                          refine g_istore_n 237 O (lv' := [(1, .int 0), (0, .ref (a 0))]) dX6_digest_237 rfl (by decide) rfl ?_
                          refine g_sub [0, 1] (lv' := [(1, .int 0), (0, .ref (a 0))]) rfl ?_
                          have L238 : ∀ (fuel : Nat) (i : Nat) (hvi : i ≤ pn), pn - i < fuel → G l E (wM E a) P0 X 3 (((mw, msd, mn, mon, mhn, mrd, mtn, mad, mpn), (se, wo, jf, ow, oj, kf, ff, vf, cf, tf, pb), (fat, whl, nw, nwd, njn), (nI (NR y), so', vl', jg'), tko', (sdn, mxs (fun k => (pc k).toInt64) i ((fun h => if y.1 = 0 then h else if tl.1 = 0 then dgS z y o hr wn h else dgF z y hr tl hr.1 (dgS z y o hr wn h)) (dgH z y hr wn hr.1 (mxs (fun k => (nI (bitN wn k)).toInt64) 6 (mxs (fun k => (nI (z k)).toInt64) 6 739))))), (ik, kw, kh, kr, kt, kc, ko))) 238 [(1, .int (nI i)), (0, .ref (a 0))] [] := by
                            intro fuel
                            induction fuel with
                            | zero => intro i hvi hfu; exact absurd hfu (Nat.not_lt_zero _)
                            | succ fuel ih238 =>
                              intro i hvi hfu
                              refine g_iload_n 238 O dX6_digest_238 rfl 0 rfl ?_
                              refine g_aload_n 239 O dX6_digest_239 rfl 1 rfl ?_
                              refine g_get 240 O (v := .int mpn) inX6 0 rfl rfl 18 (by decide) kf_X6_73 rfl dX6_digest_240 ?_
                              refine g_si (nI pn) (hpn) ?_
                              refine g_icmp_ge 243 O 263 dX6_digest_243 (by decide) (fun h243 => ?_) (fun h243 => ?_)
                              · -- taken
                                have e243 : i = pn := by have := ge_of_le (n := pn) (by omega) (by omega) h243; omega
                                rw [show (mxs (fun k => (pc k).toInt64) i ((fun h => if y.1 = 0 then h else if tl.1 = 0 then dgS z y o hr wn h else dgF z y hr tl hr.1 (dgS z y o hr wn h)) (dgH z y hr wn hr.1 (mxs (fun k => (nI (bitN wn k)).toInt64) 6 (mxs (fun k => (nI (z k)).toInt64) 6 739))))) = mxs (fun k => (pc k).toInt64) pn ((fun h => if y.1 = 0 then h else if tl.1 = 0 then dgS z y o hr wn h else dgF z y hr tl hr.1 (dgS z y o hr wn h)) (dgH z y hr wn hr.1 (mxs (fun k => (nI (bitN wn k)).toInt64) 6 (mxs (fun k => (nI (z k)).toInt64) 6 739)))) from by rw [e243]]
                                refine g_iconst 263 O (v := 0) dX6_digest_263 (by decide) ?_
                                refine g_istore_n 264 O (lv' := [(1, .int 0), (0, .ref (a 0))]) dX6_digest_264 rfl (by decide) rfl ?_
                                refine g_sub [0, 1] (lv' := [(1, .int 0), (0, .ref (a 0))]) rfl ?_
                                have L265 : ∀ (fuel : Nat) (q : Nat) (hvq : q ≤ 10), 10 - q < fuel → G l E (wM E a) P0 X 3 (((mw, msd, mn, mon, mhn, mrd, mtn, mad, mpn), (se, wo, jf, ow, oj, kf, ff, vf, cf, tf, pb), (fat, whl, nw, nwd, njn), (nI (NR y), so', vl', jg'), tko', (sdn, mxs (fun k => (cntN ((wn, rn, sn0, adn), (pn, pc), z, y, o, hr, tl, ib, iw, ir, ih, it) (nI k)).toInt64) q (mxs (fun k => (pc k).toInt64) pn ((fun h => if y.1 = 0 then h else if tl.1 = 0 then dgS z y o hr wn h else dgF z y hr tl hr.1 (dgS z y o hr wn h)) (dgH z y hr wn hr.1 (mxs (fun k => (nI (bitN wn k)).toInt64) 6 (mxs (fun k => (nI (z k)).toInt64) 6 739)))))), (ik, kw, kh, kr, kt, kc, ko))) 265 [(1, .int (nI q)), (0, .ref (a 0))] [] := by
                                  intro fuel
                                  induction fuel with
                                  | zero => intro q hvq hfu; exact absurd hfu (Nat.not_lt_zero _)
                                  | succ fuel ih265 =>
                                    intro q hvq hfu
                                    refine g_iload_n 265 O dX6_digest_265 rfl 0 rfl ?_
                                    refine g_bipush 266 O (v := 10) dX6_digest_266 (by decide) ?_
                                    refine g_icmp_ge 268 O 287 dX6_digest_268 (by decide) (fun h268 => ?_) (fun h268 => ?_)
                                    · -- taken
                                      have e268 : q = 10 := by have := ge_of_le (n := 10) (by omega) (by decide) h268; omega
                                      rw [show (mxs (fun k => (cntN ((wn, rn, sn0, adn), (pn, pc), z, y, o, hr, tl, ib, iw, ir, ih, it) (nI k)).toInt64) q (mxs (fun k => (pc k).toInt64) pn ((fun h => if y.1 = 0 then h else if tl.1 = 0 then dgS z y o hr wn h else dgF z y hr tl hr.1 (dgS z y o hr wn h)) (dgH z y hr wn hr.1 (mxs (fun k => (nI (bitN wn k)).toInt64) 6 (mxs (fun k => (nI (z k)).toInt64) 6 739)))))) = mxs (fun k => (cntN ((wn, rn, sn0, adn), (pn, pc), z, y, o, hr, tl, ib, iw, ir, ih, it) (nI k)).toInt64) 10 (mxs (fun k => (pc k).toInt64) pn ((fun h => if y.1 = 0 then h else if tl.1 = 0 then dgS z y o hr wn h else dgF z y hr tl hr.1 (dgS z y o hr wn h)) (dgH z y hr wn hr.1 (mxs (fun k => (nI (bitN wn k)).toInt64) 6 (mxs (fun k => (nI (z k)).toInt64) 6 739))))) from by rw [e268]]
                                      refine g_aload_n 287 O dX6_digest_287 rfl 1 rfl ?_
                                      refine g_get 288 O (v := .long (mxs (fun k => (cntN ((wn, rn, sn0, adn), (pn, pc), z, y, o, hr, tl, ib, iw, ir, ih, it) (nI k)).toInt64) 10 (mxs (fun k => (pc k).toInt64) pn ((fun h => if y.1 = 0 then h else if tl.1 = 0 then dgS z y o hr wn h else dgF z y hr tl hr.1 (dgS z y o hr wn h)) (dgH z y hr wn hr.1 (mxs (fun k => (nI (bitN wn k)).toInt64) 6 (mxs (fun k => (nI (z k)).toInt64) 6 739))))))) inX6 0 rfl rfl 38 (by decide) kf_X6_273 rfl dX6_digest_288 ?_
                                      exact g_lret 291 O dX6_digest_291 (by rw [hP0, A_digest]; exact ⟨_, rfl, rfl, hS9⟩)
                                    · -- not taken
                                      have hlt : q < 10 := lt_of_nge (n := 10) (by omega) h268
                                      refine g_aload_n 271 O dX6_digest_271 rfl 1 rfl ?_
                                      refine g_aload_n 272 O dX6_digest_272 rfl 1 rfl ?_
                                      refine g_iload_n 273 O dX6_digest_273 rfl 0 rfl ?_
                                      refine g_callV 274 O (na := 1) (av := [.int (nI q)]) (c_X6_howMany l E a mw msd mn mon mhn mrd mtn mad mpn se wo jf ow oj kf ff vf cf tf pb fat whl nw nwd njn (nI (NR y)) so' vl' jg' tko' sdn (mxs (fun k => (cntN ((wn, rn, sn0, adn), (pn, pc), z, y, o, hr, tl, ib, iw, ir, ih, it) (nI k)).toInt64) q (mxs (fun k => (pc k).toInt64) pn ((fun h => if y.1 = 0 then h else if tl.1 = 0 then dgS z y o hr wn h else dgF z y hr tl hr.1 (dgS z y o hr wn h)) (dgH z y hr wn hr.1 (mxs (fun k => (nI (bitN wn k)).toInt64) 6 (mxs (fun k => (nI (z k)).toInt64) 6 739)))))) ik kw kh kr kt kc ko (nI q) wn rn sn0 adn pn pc z y o hr tl ib iw ir ih it hS9) kl_X6_268 km_X6_howMany kv_X6_howMany ki_X6 kc_X6_howMany (by decide +kernel) rfl (Nat.le_of_ble_eq_true rfl) (Nat.le_of_ble_eq_true rfl) (fun _ h => h) 0 rfl rfl (fun s => s) (fun _ _ _ _ h => h) rfl (Nat.le_of_ble_eq_true rfl) dX6_digest_274 (fun v9 s9 hv9 => ?_)
                                      obtain ⟨rfl, rfl⟩ := hv9
                                      refine g_i2l 277 O dX6_digest_277 ?_
                                      refine g_callV 278 O (na := 1) (av := [.long ((cntN ((wn, rn, sn0, adn), (pn, pc), z, y, o, hr, tl, ib, iw, ir, ih, it) (nI q)).toInt64)]) (c_X6_mix l E a mw msd mn mon mhn mrd mtn mad mpn se wo jf ow oj kf ff vf cf tf pb fat whl nw nwd njn (nI (NR y)) so' vl' jg' tko' sdn (mxs (fun k => (cntN ((wn, rn, sn0, adn), (pn, pc), z, y, o, hr, tl, ib, iw, ir, ih, it) (nI k)).toInt64) q (mxs (fun k => (pc k).toInt64) pn ((fun h => if y.1 = 0 then h else if tl.1 = 0 then dgS z y o hr wn h else dgF z y hr tl hr.1 (dgS z y o hr wn h)) (dgH z y hr wn hr.1 (mxs (fun k => (nI (bitN wn k)).toInt64) 6 (mxs (fun k => (nI (z k)).toInt64) 6 739)))))) ik kw kh kr kt kc ko ((cntN ((wn, rn, sn0, adn), (pn, pc), z, y, o, hr, tl, ib, iw, ir, ih, it) (nI q)).toInt64)) kl_X6_278 km_X6_mix kv_X6_mix ki_X6 kc_X6_mix (by decide +kernel) rfl (Nat.le_of_ble_eq_true rfl) (Nat.le_of_ble_eq_true rfl) (fun _ h => h) 0 rfl rfl (fun s => s) (fun _ _ _ _ h => h) rfl (Nat.le_of_ble_eq_true rfl) dX6_digest_278 (fun v9 s9 hv9 => ?_)
                                      obtain ⟨rfl, rfl⟩ := hv9
                                      refine g_iinc 281 O (v := nI (q + 1)) (q := 0) (lv' := [(1, .int (nI (q + 1))), (0, .ref (a 0))]) dX6_digest_281 rfl (nI_1 q) (by decide) rfl ?_
                                      refine g_goto 284 O 265 dX6_digest_284 (by decide) ?_
                                      refine g_sub [0, 1] (lv' := [(1, .int (nI (q + 1))), (0, .ref (a 0))]) rfl ?_
                                      exact ih265 (q + 1) (by omega) (by omega)
                                exact L265 _ 0 (Nat.zero_le _) (Nat.lt_succ_self _)
                              · -- not taken
                                have hlt : i < pn := lt_of_nge (by omega) h243
                                refine g_aload_n 246 O dX6_digest_246 rfl 1 rfl ?_
                                refine g_aload_n 247 O dX6_digest_247 rfl 1 rfl ?_
                                refine g_get 248 O (v := .ref (a 11)) inX6 0 rfl rfl 19 (by decide) kf_X6_40 rfl dX6_digest_248 ?_
                                refine g_iload_n 251 O dX6_digest_251 rfl 0 rfl ?_
                                refine g_bald 252 O 11 i rfl (rfl) (by omega) (by decide) dX6_digest_252 ?_
                                refine g_si (pc i) ((hpb i hlt).1) ?_
                                refine g_i2l 253 O dX6_digest_253 ?_
                                refine g_callV 254 O (na := 1) (av := [.long ((pc i).toInt64)]) (c_X6_mix l E a mw msd mn mon mhn mrd mtn mad mpn se wo jf ow oj kf ff vf cf tf pb fat whl nw nwd njn (nI (NR y)) so' vl' jg' tko' sdn (mxs (fun k => (pc k).toInt64) i ((fun h => if y.1 = 0 then h else if tl.1 = 0 then dgS z y o hr wn h else dgF z y hr tl hr.1 (dgS z y o hr wn h)) (dgH z y hr wn hr.1 (mxs (fun k => (nI (bitN wn k)).toInt64) 6 (mxs (fun k => (nI (z k)).toInt64) 6 739))))) ik kw kh kr kt kc ko ((pc i).toInt64)) kl_X6_278 km_X6_mix kv_X6_mix ki_X6 kc_X6_mix (by decide +kernel) rfl (Nat.le_of_ble_eq_true rfl) (Nat.le_of_ble_eq_true rfl) (fun _ h => h) 0 rfl rfl (fun s => s) (fun _ _ _ _ h => h) rfl (Nat.le_of_ble_eq_true rfl) dX6_digest_254 (fun v9 s9 hv9 => ?_)
                                obtain ⟨rfl, rfl⟩ := hv9
                                refine g_iinc 257 O (v := nI (i + 1)) (q := 0) (lv' := [(1, .int (nI (i + 1))), (0, .ref (a 0))]) dX6_digest_257 rfl (nI_1 i) (by decide) rfl ?_
                                refine g_goto 260 O 238 dX6_digest_260 (by decide) ?_
                                refine g_sub [0, 1] (lv' := [(1, .int (nI (i + 1))), (0, .ref (a 0))]) rfl ?_
                                exact ih238 (i + 1) (by omega) (by omega)
                          exact L238 _ 0 (Nat.zero_le _) (Nat.lt_succ_self _)
                      · -- T1
                        refine g_iconst 184 O (v := 0) dX6_digest_184 (by decide) ?_
                        refine g_istore_n 185 O (lv' := [(1, .int 0), (0, .ref (a 0))]) dX6_digest_185 rfl (by decide) rfl ?_
                        refine g_sub [0, 1] (lv' := [(1, .int 0), (0, .ref (a 0))]) rfl ?_
                        have L186 : ∀ (fuel : Nat) (k : Nat) (hk : k ≤ hr.1), hr.1 - k < fuel → G l E (wM E a) P0 X 3 (((mw, msd, mn, mon, mhn, mrd, mtn, mad, mpn), (se, wo, jf, ow, oj, kf, ff, vf, cf, tf, pb), (fat, whl, nw, nwd, njn), (nI (NR y), so', vl', jg'), tko', (sdn, dgF z y hr tl k (dgS z y o hr wn (dgH z y hr wn hr.1 (mxs (fun k => (nI (bitN wn k)).toInt64) 6 (mxs (fun k => (nI (z k)).toInt64) 6 739))))), (ik, kw, kh, kr, kt, kc, ko))) 186 [(1, .int (nI k)), (0, .ref (a 0))] [] := by
                          intro fuel
                          induction fuel with
                          | zero => intro k hk hfu; exact absurd hfu (Nat.not_lt_zero _)
                          | succ fuel ih186 =>
                            intro k hk hfu
                            refine g_iload_n 186 O dX6_digest_186 rfl 0 rfl ?_
                            refine g_aload_n 187 O dX6_digest_187 rfl 1 rfl ?_
                            refine g_get 188 O (v := .int mhn) inX6 0 rfl rfl 9 (by decide) kf_X6_175 rfl dX6_digest_188 ?_
                            refine g_si (nI hr.1) (hh.1) ?_
                            refine g_icmp_ge 191 O 236 dX6_digest_191 (by decide) (fun h191 => ?_) (fun h191 => ?_)
                            · -- taken
                              have e : k = hr.1 := by have := ge_of_le (by omega) (by omega) h191; omega
                              rw [show (dgF z y hr tl k (dgS z y o hr wn (dgH z y hr wn hr.1 (mxs (fun k => (nI (bitN wn k)).toInt64) 6 (mxs (fun k => (nI (z k)).toInt64) 6 739))))) = ((fun h => if y.1 = 0 then h else if tl.1 = 0 then dgS z y o hr wn h else dgF z y hr tl hr.1 (dgS z y o hr wn h)) (dgH z y hr wn hr.1 (mxs (fun k => (nI (bitN wn k)).toInt64) 6 (mxs (fun k => (nI (z k)).toInt64) 6 739)))) from by show _ = (if y.1 = 0 then _ else if tl.1 = 0 then _ else _); rw [if_neg y0, if_neg (Nat.ne_of_gt t0), e]]
                              refine g_iconst 236 O (v := 0) dX6_digest_236 (by decide) ?_
                              refine g_istore_n 237 O (lv' := [(1, .int 0), (0, .ref (a 0))]) dX6_digest_237 rfl (by decide) rfl ?_
                              refine g_sub [0, 1] (lv' := [(1, .int 0), (0, .ref (a 0))]) rfl ?_
                              have L238 : ∀ (fuel : Nat) (i : Nat) (hvi : i ≤ pn), pn - i < fuel → G l E (wM E a) P0 X 3 (((mw, msd, mn, mon, mhn, mrd, mtn, mad, mpn), (se, wo, jf, ow, oj, kf, ff, vf, cf, tf, pb), (fat, whl, nw, nwd, njn), (nI (NR y), so', vl', jg'), tko', (sdn, mxs (fun k => (pc k).toInt64) i ((fun h => if y.1 = 0 then h else if tl.1 = 0 then dgS z y o hr wn h else dgF z y hr tl hr.1 (dgS z y o hr wn h)) (dgH z y hr wn hr.1 (mxs (fun k => (nI (bitN wn k)).toInt64) 6 (mxs (fun k => (nI (z k)).toInt64) 6 739))))), (ik, kw, kh, kr, kt, kc, ko))) 238 [(1, .int (nI i)), (0, .ref (a 0))] [] := by
                                intro fuel
                                induction fuel with
                                | zero => intro i hvi hfu; exact absurd hfu (Nat.not_lt_zero _)
                                | succ fuel ih238 =>
                                  intro i hvi hfu
                                  refine g_iload_n 238 O dX6_digest_238 rfl 0 rfl ?_
                                  refine g_aload_n 239 O dX6_digest_239 rfl 1 rfl ?_
                                  refine g_get 240 O (v := .int mpn) inX6 0 rfl rfl 18 (by decide) kf_X6_73 rfl dX6_digest_240 ?_
                                  refine g_si (nI pn) (hpn) ?_
                                  refine g_icmp_ge 243 O 263 dX6_digest_243 (by decide) (fun h243 => ?_) (fun h243 => ?_)
                                  · -- taken
                                    have e243 : i = pn := by have := ge_of_le (n := pn) (by omega) (by omega) h243; omega
                                    rw [show (mxs (fun k => (pc k).toInt64) i ((fun h => if y.1 = 0 then h else if tl.1 = 0 then dgS z y o hr wn h else dgF z y hr tl hr.1 (dgS z y o hr wn h)) (dgH z y hr wn hr.1 (mxs (fun k => (nI (bitN wn k)).toInt64) 6 (mxs (fun k => (nI (z k)).toInt64) 6 739))))) = mxs (fun k => (pc k).toInt64) pn ((fun h => if y.1 = 0 then h else if tl.1 = 0 then dgS z y o hr wn h else dgF z y hr tl hr.1 (dgS z y o hr wn h)) (dgH z y hr wn hr.1 (mxs (fun k => (nI (bitN wn k)).toInt64) 6 (mxs (fun k => (nI (z k)).toInt64) 6 739)))) from by rw [e243]]
                                    refine g_iconst 263 O (v := 0) dX6_digest_263 (by decide) ?_
                                    refine g_istore_n 264 O (lv' := [(1, .int 0), (0, .ref (a 0))]) dX6_digest_264 rfl (by decide) rfl ?_
                                    refine g_sub [0, 1] (lv' := [(1, .int 0), (0, .ref (a 0))]) rfl ?_
                                    have L265 : ∀ (fuel : Nat) (q : Nat) (hvq : q ≤ 10), 10 - q < fuel → G l E (wM E a) P0 X 3 (((mw, msd, mn, mon, mhn, mrd, mtn, mad, mpn), (se, wo, jf, ow, oj, kf, ff, vf, cf, tf, pb), (fat, whl, nw, nwd, njn), (nI (NR y), so', vl', jg'), tko', (sdn, mxs (fun k => (cntN ((wn, rn, sn0, adn), (pn, pc), z, y, o, hr, tl, ib, iw, ir, ih, it) (nI k)).toInt64) q (mxs (fun k => (pc k).toInt64) pn ((fun h => if y.1 = 0 then h else if tl.1 = 0 then dgS z y o hr wn h else dgF z y hr tl hr.1 (dgS z y o hr wn h)) (dgH z y hr wn hr.1 (mxs (fun k => (nI (bitN wn k)).toInt64) 6 (mxs (fun k => (nI (z k)).toInt64) 6 739)))))), (ik, kw, kh, kr, kt, kc, ko))) 265 [(1, .int (nI q)), (0, .ref (a 0))] [] := by
                                      intro fuel
                                      induction fuel with
                                      | zero => intro q hvq hfu; exact absurd hfu (Nat.not_lt_zero _)
                                      | succ fuel ih265 =>
                                        intro q hvq hfu
                                        refine g_iload_n 265 O dX6_digest_265 rfl 0 rfl ?_
                                        refine g_bipush 266 O (v := 10) dX6_digest_266 (by decide) ?_
                                        refine g_icmp_ge 268 O 287 dX6_digest_268 (by decide) (fun h268 => ?_) (fun h268 => ?_)
                                        · -- taken
                                          have e268 : q = 10 := by have := ge_of_le (n := 10) (by omega) (by decide) h268; omega
                                          rw [show (mxs (fun k => (cntN ((wn, rn, sn0, adn), (pn, pc), z, y, o, hr, tl, ib, iw, ir, ih, it) (nI k)).toInt64) q (mxs (fun k => (pc k).toInt64) pn ((fun h => if y.1 = 0 then h else if tl.1 = 0 then dgS z y o hr wn h else dgF z y hr tl hr.1 (dgS z y o hr wn h)) (dgH z y hr wn hr.1 (mxs (fun k => (nI (bitN wn k)).toInt64) 6 (mxs (fun k => (nI (z k)).toInt64) 6 739)))))) = mxs (fun k => (cntN ((wn, rn, sn0, adn), (pn, pc), z, y, o, hr, tl, ib, iw, ir, ih, it) (nI k)).toInt64) 10 (mxs (fun k => (pc k).toInt64) pn ((fun h => if y.1 = 0 then h else if tl.1 = 0 then dgS z y o hr wn h else dgF z y hr tl hr.1 (dgS z y o hr wn h)) (dgH z y hr wn hr.1 (mxs (fun k => (nI (bitN wn k)).toInt64) 6 (mxs (fun k => (nI (z k)).toInt64) 6 739))))) from by rw [e268]]
                                          refine g_aload_n 287 O dX6_digest_287 rfl 1 rfl ?_
                                          refine g_get 288 O (v := .long (mxs (fun k => (cntN ((wn, rn, sn0, adn), (pn, pc), z, y, o, hr, tl, ib, iw, ir, ih, it) (nI k)).toInt64) 10 (mxs (fun k => (pc k).toInt64) pn ((fun h => if y.1 = 0 then h else if tl.1 = 0 then dgS z y o hr wn h else dgF z y hr tl hr.1 (dgS z y o hr wn h)) (dgH z y hr wn hr.1 (mxs (fun k => (nI (bitN wn k)).toInt64) 6 (mxs (fun k => (nI (z k)).toInt64) 6 739))))))) inX6 0 rfl rfl 38 (by decide) kf_X6_273 rfl dX6_digest_288 ?_
                                          exact g_lret 291 O dX6_digest_291 (by rw [hP0, A_digest]; exact ⟨_, rfl, rfl, hS9⟩)
                                        · -- not taken
                                          have hlt : q < 10 := lt_of_nge (n := 10) (by omega) h268
                                          refine g_aload_n 271 O dX6_digest_271 rfl 1 rfl ?_
                                          refine g_aload_n 272 O dX6_digest_272 rfl 1 rfl ?_
                                          refine g_iload_n 273 O dX6_digest_273 rfl 0 rfl ?_
                                          refine g_callV 274 O (na := 1) (av := [.int (nI q)]) (c_X6_howMany l E a mw msd mn mon mhn mrd mtn mad mpn se wo jf ow oj kf ff vf cf tf pb fat whl nw nwd njn (nI (NR y)) so' vl' jg' tko' sdn (mxs (fun k => (cntN ((wn, rn, sn0, adn), (pn, pc), z, y, o, hr, tl, ib, iw, ir, ih, it) (nI k)).toInt64) q (mxs (fun k => (pc k).toInt64) pn ((fun h => if y.1 = 0 then h else if tl.1 = 0 then dgS z y o hr wn h else dgF z y hr tl hr.1 (dgS z y o hr wn h)) (dgH z y hr wn hr.1 (mxs (fun k => (nI (bitN wn k)).toInt64) 6 (mxs (fun k => (nI (z k)).toInt64) 6 739)))))) ik kw kh kr kt kc ko (nI q) wn rn sn0 adn pn pc z y o hr tl ib iw ir ih it hS9) kl_X6_268 km_X6_howMany kv_X6_howMany ki_X6 kc_X6_howMany (by decide +kernel) rfl (Nat.le_of_ble_eq_true rfl) (Nat.le_of_ble_eq_true rfl) (fun _ h => h) 0 rfl rfl (fun s => s) (fun _ _ _ _ h => h) rfl (Nat.le_of_ble_eq_true rfl) dX6_digest_274 (fun v9 s9 hv9 => ?_)
                                          obtain ⟨rfl, rfl⟩ := hv9
                                          refine g_i2l 277 O dX6_digest_277 ?_
                                          refine g_callV 278 O (na := 1) (av := [.long ((cntN ((wn, rn, sn0, adn), (pn, pc), z, y, o, hr, tl, ib, iw, ir, ih, it) (nI q)).toInt64)]) (c_X6_mix l E a mw msd mn mon mhn mrd mtn mad mpn se wo jf ow oj kf ff vf cf tf pb fat whl nw nwd njn (nI (NR y)) so' vl' jg' tko' sdn (mxs (fun k => (cntN ((wn, rn, sn0, adn), (pn, pc), z, y, o, hr, tl, ib, iw, ir, ih, it) (nI k)).toInt64) q (mxs (fun k => (pc k).toInt64) pn ((fun h => if y.1 = 0 then h else if tl.1 = 0 then dgS z y o hr wn h else dgF z y hr tl hr.1 (dgS z y o hr wn h)) (dgH z y hr wn hr.1 (mxs (fun k => (nI (bitN wn k)).toInt64) 6 (mxs (fun k => (nI (z k)).toInt64) 6 739)))))) ik kw kh kr kt kc ko ((cntN ((wn, rn, sn0, adn), (pn, pc), z, y, o, hr, tl, ib, iw, ir, ih, it) (nI q)).toInt64)) kl_X6_278 km_X6_mix kv_X6_mix ki_X6 kc_X6_mix (by decide +kernel) rfl (Nat.le_of_ble_eq_true rfl) (Nat.le_of_ble_eq_true rfl) (fun _ h => h) 0 rfl rfl (fun s => s) (fun _ _ _ _ h => h) rfl (Nat.le_of_ble_eq_true rfl) dX6_digest_278 (fun v9 s9 hv9 => ?_)
                                          obtain ⟨rfl, rfl⟩ := hv9
                                          refine g_iinc 281 O (v := nI (q + 1)) (q := 0) (lv' := [(1, .int (nI (q + 1))), (0, .ref (a 0))]) dX6_digest_281 rfl (nI_1 q) (by decide) rfl ?_
                                          refine g_goto 284 O 265 dX6_digest_284 (by decide) ?_
                                          refine g_sub [0, 1] (lv' := [(1, .int (nI (q + 1))), (0, .ref (a 0))]) rfl ?_
                                          exact ih265 (q + 1) (by omega) (by omega)
                                    exact L265 _ 0 (Nat.zero_le _) (Nat.lt_succ_self _)
                                  · -- not taken
                                    have hlt : i < pn := lt_of_nge (by omega) h243
                                    refine g_aload_n 246 O dX6_digest_246 rfl 1 rfl ?_
                                    refine g_aload_n 247 O dX6_digest_247 rfl 1 rfl ?_
                                    refine g_get 248 O (v := .ref (a 11)) inX6 0 rfl rfl 19 (by decide) kf_X6_40 rfl dX6_digest_248 ?_
                                    refine g_iload_n 251 O dX6_digest_251 rfl 0 rfl ?_
                                    refine g_bald 252 O 11 i rfl (rfl) (by omega) (by decide) dX6_digest_252 ?_
                                    refine g_si (pc i) ((hpb i hlt).1) ?_
                                    refine g_i2l 253 O dX6_digest_253 ?_
                                    refine g_callV 254 O (na := 1) (av := [.long ((pc i).toInt64)]) (c_X6_mix l E a mw msd mn mon mhn mrd mtn mad mpn se wo jf ow oj kf ff vf cf tf pb fat whl nw nwd njn (nI (NR y)) so' vl' jg' tko' sdn (mxs (fun k => (pc k).toInt64) i ((fun h => if y.1 = 0 then h else if tl.1 = 0 then dgS z y o hr wn h else dgF z y hr tl hr.1 (dgS z y o hr wn h)) (dgH z y hr wn hr.1 (mxs (fun k => (nI (bitN wn k)).toInt64) 6 (mxs (fun k => (nI (z k)).toInt64) 6 739))))) ik kw kh kr kt kc ko ((pc i).toInt64)) kl_X6_278 km_X6_mix kv_X6_mix ki_X6 kc_X6_mix (by decide +kernel) rfl (Nat.le_of_ble_eq_true rfl) (Nat.le_of_ble_eq_true rfl) (fun _ h => h) 0 rfl rfl (fun s => s) (fun _ _ _ _ h => h) rfl (Nat.le_of_ble_eq_true rfl) dX6_digest_254 (fun v9 s9 hv9 => ?_)
                                    obtain ⟨rfl, rfl⟩ := hv9
                                    refine g_iinc 257 O (v := nI (i + 1)) (q := 0) (lv' := [(1, .int (nI (i + 1))), (0, .ref (a 0))]) dX6_digest_257 rfl (nI_1 i) (by decide) rfl ?_
                                    refine g_goto 260 O 238 dX6_digest_260 (by decide) ?_
                                    refine g_sub [0, 1] (lv' := [(1, .int (nI (i + 1))), (0, .ref (a 0))]) rfl ?_
                                    exact ih238 (i + 1) (by omega) (by omega)
                              exact L238 _ 0 (Nat.zero_le _) (Nat.lt_succ_self _)
                            · -- not taken
                              have hlt : k < hr.1 := lt_of_nge (by omega) h191
                              refine g_aload_n 194 O dX6_digest_194 rfl 1 rfl ?_
                              refine g_get 195 O (v := .int mn) inX6 0 rfl rfl 3 (by decide) kf_X6_97 rfl dX6_digest_195 ?_
                              refine g_if_le 198 O 236 dX6_digest_198 (by decide) (fun h198 => False.elim (y0 (Nat.le_zero.mp (ge_of_le (n := y.1) (i := 0) (by decide) (by have := hy.1; omega) (hw ▸ h198))))) (fun h198 => ?_)
                              refine g_aload_n 201 O dX6_digest_201 rfl 1 rfl ?_
                              refine g_get 202 O (v := .int mtn) inX6 0 rfl rfl 15 (by decide) kf_X6_226 rfl dX6_digest_202 ?_
                              refine g_if_le 205 O 236 dX6_digest_205 (by decide) (fun h205 => False.elim ((Nat.ne_of_gt t0) (Nat.le_zero.mp (ge_of_le (n := tl.1) (i := 0) (by decide) (by have := ht.2.1; omega) (ht.1 ▸ h205))))) (fun h205 => ?_)
                              refine g_aload_n 208 O dX6_digest_208 rfl 1 rfl ?_
                              refine g_aload_n 209 O dX6_digest_209 rfl 1 rfl ?_
                              refine g_iload_n 210 O dX6_digest_210 rfl 0 rfl ?_
                              refine g_iconst 211 O (v := 0) dX6_digest_211 (by decide) ?_
                              refine g_callV 212 O (na := 2) (av := [.int (nI k), .int 0]) (c_X6_fitsNow l E a mw msd mn mon mhn mrd mtn mad mpn se wo jf ow oj kf ff vf cf tf pb fat whl nw nwd njn (nI (NR y)) so' vl' jg' tko' sdn (dgF z y hr tl k (dgS z y o hr wn (dgH z y hr wn hr.1 (mxs (fun k => (nI (bitN wn k)).toInt64) 6 (mxs (fun k => (nI (z k)).toInt64) 6 739))))) ik kw kh kr kt kc ko (nI k) 0 y z hy.1 rfl hso hr hh k rfl hlt tl ht) kl_X6_229 km_X6_fitsNow kv_X6_fitsNow ki_X6 kc_X6_fitsNow (by decide +kernel) rfl (Nat.le_of_ble_eq_true rfl) (Nat.le_of_ble_eq_true rfl) (fun _ h => h) 0 rfl rfl (fun s => s) (fun _ _ _ _ h => h) rfl (Nat.le_of_ble_eq_true rfl) dX6_digest_212 (fun v9 s9 hv9 => ?_)
                              obtain ⟨rfl, rfl⟩ := hv9
                              refine g_i2l 215 O dX6_digest_215 ?_
                              refine g_callV 216 O (na := 1) (av := [.long ((fitN z y hr tl k 0).toInt64)]) (c_X6_mix l E a mw msd mn mon mhn mrd mtn mad mpn se wo jf ow oj kf ff vf cf tf pb fat whl nw nwd njn (nI (NR y)) so' vl' jg' tko' sdn (dgF z y hr tl k (dgS z y o hr wn (dgH z y hr wn hr.1 (mxs (fun k => (nI (bitN wn k)).toInt64) 6 (mxs (fun k => (nI (z k)).toInt64) 6 739))))) ik kw kh kr kt kc ko ((fitN z y hr tl k 0).toInt64)) kl_X6_278 km_X6_mix kv_X6_mix ki_X6 kc_X6_mix (by decide +kernel) rfl (Nat.le_of_ble_eq_true rfl) (Nat.le_of_ble_eq_true rfl) (fun _ h => h) 0 rfl rfl (fun s => s) (fun _ _ _ _ h => h) rfl (Nat.le_of_ble_eq_true rfl) dX6_digest_216 (fun v9 s9 hv9 => ?_)
                              obtain ⟨rfl, rfl⟩ := hv9
                              refine g_aload_n 219 O dX6_digest_219 rfl 1 rfl ?_
                              refine g_aload_n 220 O dX6_digest_220 rfl 1 rfl ?_
                              refine g_iload_n 221 O dX6_digest_221 rfl 0 rfl ?_
                              refine g_iconst 222 O (v := 1) dX6_digest_222 (by decide) ?_
                              refine g_callV 223 O (na := 2) (av := [.int (nI k), .int 1]) (c_X6_fitsNow l E a mw msd mn mon mhn mrd mtn mad mpn se wo jf ow oj kf ff vf cf tf pb fat whl nw nwd njn (nI (NR y)) so' vl' jg' tko' sdn (31 * (dgF z y hr tl k (dgS z y o hr wn (dgH z y hr wn hr.1 (mxs (fun k => (nI (bitN wn k)).toInt64) 6 (mxs (fun k => (nI (z k)).toInt64) 6 739))))) + ((fitN z y hr tl k 0).toInt64)) ik kw kh kr kt kc ko (nI k) 1 y z hy.1 rfl hso hr hh k rfl hlt tl ht) kl_X6_229 km_X6_fitsNow kv_X6_fitsNow ki_X6 kc_X6_fitsNow (by decide +kernel) rfl (Nat.le_of_ble_eq_true rfl) (Nat.le_of_ble_eq_true rfl) (fun _ h => h) 0 rfl rfl (fun s => s) (fun _ _ _ _ h => h) rfl (Nat.le_of_ble_eq_true rfl) dX6_digest_223 (fun v9 s9 hv9 => ?_)
                              obtain ⟨rfl, rfl⟩ := hv9
                              refine g_i2l 226 O dX6_digest_226 ?_
                              refine g_callV 227 O (na := 1) (av := [.long ((fitN z y hr tl k 1).toInt64)]) (c_X6_mix l E a mw msd mn mon mhn mrd mtn mad mpn se wo jf ow oj kf ff vf cf tf pb fat whl nw nwd njn (nI (NR y)) so' vl' jg' tko' sdn (31 * (dgF z y hr tl k (dgS z y o hr wn (dgH z y hr wn hr.1 (mxs (fun k => (nI (bitN wn k)).toInt64) 6 (mxs (fun k => (nI (z k)).toInt64) 6 739))))) + ((fitN z y hr tl k 0).toInt64)) ik kw kh kr kt kc ko ((fitN z y hr tl k 1).toInt64)) kl_X6_278 km_X6_mix kv_X6_mix ki_X6 kc_X6_mix (by decide +kernel) rfl (Nat.le_of_ble_eq_true rfl) (Nat.le_of_ble_eq_true rfl) (fun _ h => h) 0 rfl rfl (fun s => s) (fun _ _ _ _ h => h) rfl (Nat.le_of_ble_eq_true rfl) dX6_digest_227 (fun v9 s9 hv9 => ?_)
                              obtain ⟨rfl, rfl⟩ := hv9
                              rw [show (31 * (31 * (dgF z y hr tl k (dgS z y o hr wn (dgH z y hr wn hr.1 (mxs (fun k => (nI (bitN wn k)).toInt64) 6 (mxs (fun k => (nI (z k)).toInt64) 6 739))))) + ((fitN z y hr tl k 0).toInt64)) + ((fitN z y hr tl k 1).toInt64)) = dgF z y hr tl (k + 1) (dgS z y o hr wn (dgH z y hr wn hr.1 (mxs (fun k => (nI (bitN wn k)).toInt64) 6 (mxs (fun k => (nI (z k)).toInt64) 6 739)))) from rfl]
                              refine g_iinc 230 O (v := nI (k + 1)) (q := 0) (lv' := [(1, .int (nI (k + 1))), (0, .ref (a 0))]) dX6_digest_230 rfl (nI_1 k) (by decide) rfl ?_
                              refine g_goto 233 O 186 dX6_digest_233 (by decide) ?_
                              refine g_sub [0, 1] (lv' := [(1, .int (nI (k + 1))), (0, .ref (a 0))]) rfl ?_
                              exact ih186 (k + 1) (by omega) (by omega)
                        exact L186 _ 0 (Nat.zero_le _) (Nat.lt_succ_self _)
                  · -- not taken
                    have hlt : k < hr.1 := lt_of_nge (by omega) h75
                    refine g_iconst 78 O (v := 0) dX6_digest_78 (by decide) ?_
                    refine g_istore_n 79 O (lv' := [(2, .int 0), (1, .int (nI k)), (0, .ref (a 0))]) dX6_digest_79 rfl (by decide) rfl ?_
                    refine g_sub [0, 1, 2] (lv' := [(2, .int 0), (1, .int (nI k)), (0, .ref (a 0))]) rfl ?_
                    have L80 : ∀ (fuel : Nat) (q : Nat) (hq : q ≤ 6), 6 - q < fuel → G l E (wM E a) P0 X 3 (((mw, msd, mn, mon, mhn, mrd, mtn, mad, mpn), (se, wo, jf, ow, oj, kf, ff, vf, cf, tf, pb), (fat, whl, nw, nwd, njn), (nI (NR y), so', vl', jg'), tko, (sdn, mxs (fun q => (aN z y hr wn k (nI q)).toInt64) q (dgH z y hr wn k (mxs (fun k => (nI (bitN wn k)).toInt64) 6 (mxs (fun k => (nI (z k)).toInt64) 6 739)))), (ik, kw, kh, kr, kt, kc, ko))) 80 [(2, .int (nI q)), (1, .int (nI k)), (0, .ref (a 0))] [] := by
                      intro fuel
                      induction fuel with
                      | zero => intro q hq hfu; exact absurd hfu (Nat.not_lt_zero _)
                      | succ fuel ih80 =>
                        intro q hq hfu
                        refine g_iload_n 80 O dX6_digest_80 rfl 0 rfl ?_
                        refine g_bipush 81 O (v := 6) dX6_digest_81 (by decide) ?_
                        refine g_icmp_ge 83 O 103 dX6_digest_83 (by decide) (fun h83 => ?_) (fun h83 => ?_)
                        · -- taken
                          have e83 : q = 6 := by have := ge_of_le (n := 6) (by omega) (by decide) h83; omega
                          subst e83
                          rw [show (mxs (fun q => (aN z y hr wn k (nI q)).toInt64) q (dgH z y hr wn k (mxs (fun k => (nI (bitN wn k)).toInt64) 6 (mxs (fun k => (nI (z k)).toInt64) 6 739)))) = dgH z y hr wn (k + 1) (mxs (fun k => (nI (bitN wn k)).toInt64) 6 (mxs (fun k => (nI (z k)).toInt64) 6 739)) from rfl]
                          refine g_iinc 103 O (v := nI (k + 1)) (q := 1) (lv' := [(1, .int (nI (k + 1))), (2, .int (nI q)), (0, .ref (a 0))]) dX6_digest_103 rfl (nI_1 k) (by decide) rfl ?_
                          refine g_goto 106 O 70 dX6_digest_106 (by decide) ?_
                          refine g_sub [0, 2] (lv' := [(1, .int (nI (k + 1))), (0, .ref (a 0))]) rfl ?_
                          exact ih70 (k + 1) (by omega) (by omega)
                        · -- not taken
                          have hlq : q < 6 := lt_of_nge (n := 6) (by omega) h83
                          refine g_aload_n 86 O dX6_digest_86 rfl 2 rfl ?_
                          refine g_aload_n 87 O dX6_digest_87 rfl 2 rfl ?_
                          refine g_iload_n 88 O dX6_digest_88 rfl 1 rfl ?_
                          refine g_iload_n 89 O dX6_digest_89 rfl 0 rfl ?_
                          refine g_callV 90 O (na := 2) (av := [.int (nI k), .int (nI q)]) (c_X6_hearerNow l E a mw msd mn mon mhn mrd mtn mad mpn se wo jf ow oj kf ff vf cf tf pb fat whl nw nwd njn (nI (NR y)) so' vl' jg' tko sdn (mxs (fun q => (aN z y hr wn k (nI q)).toInt64) q (dgH z y hr wn k (mxs (fun k => (nI (bitN wn k)).toInt64) 6 (mxs (fun k => (nI (z k)).toInt64) 6 739)))) ik kw kh kr kt kc ko (nI k) (nI q) y z hy.1 rfl hso hr hh k rfl hlt wn hwn hwn0) kl_X6_187 km_X6_hearerNow kv_X6_hearerNow ki_X6 kc_X6_hearerNow (by decide +kernel) rfl (Nat.le_of_ble_eq_true rfl) (Nat.le_of_ble_eq_true rfl) (fun _ h => h) 0 rfl rfl (fun s => s) (fun _ _ _ _ h => h) rfl (Nat.le_of_ble_eq_true rfl) dX6_digest_90 (fun v9 s9 hv9 => ?_)
                          obtain ⟨rfl, rfl⟩ := hv9
                          refine g_i2l 93 O dX6_digest_93 ?_
                          refine g_callV 94 O (na := 1) (av := [.long ((aN z y hr wn k (nI q)).toInt64)]) (c_X6_mix l E a mw msd mn mon mhn mrd mtn mad mpn se wo jf ow oj kf ff vf cf tf pb fat whl nw nwd njn (nI (NR y)) so' vl' jg' tko sdn (mxs (fun q => (aN z y hr wn k (nI q)).toInt64) q (dgH z y hr wn k (mxs (fun k => (nI (bitN wn k)).toInt64) 6 (mxs (fun k => (nI (z k)).toInt64) 6 739)))) ik kw kh kr kt kc ko ((aN z y hr wn k (nI q)).toInt64)) kl_X6_278 km_X6_mix kv_X6_mix ki_X6 kc_X6_mix (by decide +kernel) rfl (Nat.le_of_ble_eq_true rfl) (Nat.le_of_ble_eq_true rfl) (fun _ h => h) 0 rfl rfl (fun s => s) (fun _ _ _ _ h => h) rfl (Nat.le_of_ble_eq_true rfl) dX6_digest_94 (fun v9 s9 hv9 => ?_)
                          obtain ⟨rfl, rfl⟩ := hv9
                          refine g_iinc 97 O (v := nI (q + 1)) (q := 0) (lv' := [(2, .int (nI (q + 1))), (1, .int (nI k)), (0, .ref (a 0))]) dX6_digest_97 rfl (nI_1 q) (by decide) rfl ?_
                          refine g_goto 100 O 80 dX6_digest_100 (by decide) ?_
                          refine g_sub [0, 1, 2] (lv' := [(2, .int (nI (q + 1))), (1, .int (nI k)), (0, .ref (a 0))]) rfl ?_
                          exact ih80 (q + 1) (by omega) (by omega)
                    exact L80 _ 0 (Nat.zero_le _) (Nat.lt_succ_self _)
              exact L70 _ 0 (Nat.zero_le _) (Nat.lt_succ_self _)
            · -- not taken
              have hlt : j < 6 := lt_of_nge (n := 6) (by omega) h37
              refine g_aload_n 40 O dX6_digest_40 rfl 1 rfl ?_
              refine g_aload_n 41 O dX6_digest_41 rfl 1 rfl ?_
              refine g_get 42 O (v := .int mw) inX6 0 rfl rfl 0 (by decide) kf_X6_162 rfl dX6_digest_42 ?_
              refine g_iload_n 45 O dX6_digest_45 rfl 0 rfl ?_
              refine g_ishr 46 O dX6_digest_46 ?_
              refine g_iconst 47 O (v := 1) dX6_digest_47 (by decide) ?_
              refine g_iand 48 O dX6_digest_48 ?_
              refine g_si (nI (bitN wn j)) (by rw [hwn]; exact bitN_ok2 wn hwn0 j hlt) ?_
              refine g_i2l 49 O dX6_digest_49 ?_
              refine g_callV 50 O (na := 1) (av := [.long ((nI (bitN wn j)).toInt64)]) (c_X6_mix l E a mw msd mn mon mhn mrd mtn mad mpn se wo jf ow oj kf ff vf cf tf pb fat whl nw nwd njn rd so vl jg tko sdn (mxs (fun k => (nI (bitN wn k)).toInt64) j (mxs (fun k => (nI (z k)).toInt64) 6 739)) ik kw kh kr kt kc ko ((nI (bitN wn j)).toInt64)) kl_X6_278 km_X6_mix kv_X6_mix ki_X6 kc_X6_mix (by decide +kernel) rfl (Nat.le_of_ble_eq_true rfl) (Nat.le_of_ble_eq_true rfl) (fun _ h => h) 0 rfl rfl (fun s => s) (fun _ _ _ _ h => h) rfl (Nat.le_of_ble_eq_true rfl) dX6_digest_50 (fun v9 s9 hv9 => ?_)
              obtain ⟨rfl, rfl⟩ := hv9
              refine g_iinc 53 O (v := nI (j + 1)) (q := 0) (lv' := [(1, .int (nI (j + 1))), (0, .ref (a 0))]) dX6_digest_53 rfl (nI_1 j) (by decide) rfl ?_
              refine g_goto 56 O 34 dX6_digest_56 (by decide) ?_
              refine g_sub [0, 1] (lv' := [(1, .int (nI (j + 1))), (0, .ref (a 0))]) rfl ?_
              exact ih34 (j + 1) (by omega) (by omega)
        exact L34 _ 0 (Nat.zero_le _) (Nat.lt_succ_self _)
      · -- not taken
        have hlt : i < 6 := lt_of_nge (n := 6) (by omega) h12
        refine g_aload_n 15 O dX6_digest_15 rfl 1 rfl ?_
        refine g_aload_n 16 O dX6_digest_16 rfl 1 rfl ?_
        refine g_get 17 O (v := .ref (a 1)) inX6 0 rfl rfl 2 (by decide) kf_X6_7 rfl dX6_digest_17 ?_
        refine g_iload_n 20 O dX6_digest_20 rfl 0 rfl ?_
        refine g_iald 21 O 1 i rfl (rfl) (by omega) (by decide) dX6_digest_21 ?_
        refine g_si (nI (z i)) ((hz i hlt).1) ?_
        refine g_i2l 22 O dX6_digest_22 ?_
        refine g_callV 23 O (na := 1) (av := [.long ((nI (z i)).toInt64)]) (c_X6_mix l E a mw msd mn mon mhn mrd mtn mad mpn se wo jf ow oj kf ff vf cf tf pb fat whl nw nwd njn rd so vl jg tko sdn (mxs (fun k => (nI (z k)).toInt64) i 739) ik kw kh kr kt kc ko ((nI (z i)).toInt64)) kl_X6_278 km_X6_mix kv_X6_mix ki_X6 kc_X6_mix (by decide +kernel) rfl (Nat.le_of_ble_eq_true rfl) (Nat.le_of_ble_eq_true rfl) (fun _ h => h) 0 rfl rfl (fun s => s) (fun _ _ _ _ h => h) rfl (Nat.le_of_ble_eq_true rfl) dX6_digest_23 (fun v9 s9 hv9 => ?_)
        obtain ⟨rfl, rfl⟩ := hv9
        refine g_iinc 26 O (v := nI (i + 1)) (q := 0) (lv' := [(1, .int (nI (i + 1))), (0, .ref (a 0))]) dX6_digest_26 rfl (nI_1 i) (by decide) rfl ?_
        refine g_goto 29 O 9 dX6_digest_29 (by decide) ?_
        refine g_sub [0, 1] (lv' := [(1, .int (nI (i + 1))), (0, .ref (a 0))]) rfl ?_
        exact ih9 (i + 1) (by omega) (by omega)
  exact L9 _ 0 (Nat.zero_le _) (Nat.lt_succ_self _)
