set_option maxRecDepth 100000 in
set_option maxHeartbeats 4000000 in
theorem c_X6_fits (l : Launch) (E : Ev) (a : Nat → Nat) (mw msd mn mon mhn mrd mtn mad mpn : Int32) (se wo jf ow oj kf ff vf cf tf pb : Nat → Int32) (fat whl nw : Int32) (nwd njn : Nat → Int32) (rd : Int32) (so vl : Nat → Int64) (jg : Nat → Int32) (tko : Nat → Int32) (sdn hh_ : Int64) (ik kw kh kr kt : Int32) (kc ko : Nat → Int32) (p0 p1 : Int32) (wn : Nat) (rn sn0 : Int32) (adn pn : Nat) (pc : Nat → Int32) (z : Nat → Nat) (y o : Sy) (hr : Hr) (tl : Tl) (ib : Bool) (iw : Nat) (ir : Int32) (ih : Hr) (it : Tl) (hS : RMc mw msd mn mon mhn mrd mtn mad mpn se wo jf ow oj kf ff vf cf tf pb ik kw kh kr kt kc ko wn rn sn0 adn pn pc z y o hr tl ib iw ir ih it) : Ctr l yX6_fits cX6_fits 3 (some .int) 4 115 E (wM E a) [.ref (a 0), .int p0, .int p1] (((mw, msd, mn, mon, mhn, mrd, mtn, mad, mpn), (se, wo, jf, ow, oj, kf, ff, vf, cf, tf, pb), (fat, whl, nw, nwd, njn), (rd, so, vl, jg), tko, (sdn, hh_), (ik, kw, kh, kr, kt, kc, ko))) (pI (fun r x => r = A_fits z y hr tl p0 p1 ∧ RM x (((wn, rn, sn0, adn), (pn, pc), z, y, o, hr, tl, ib, iw, ir, ih, it)))) := by
  refine Ctr.of' (by decide +kernel) (Nat.le_of_ble_eq_true rfl) (fun X P0 hP0 O => ?_)
  refine g_sub [0, 1, 2] (lv' := [(0, .ref (a 0)), (1, .int p0), (2, .int p1)]) rfl ?_
  have hS9 := hS
  obtain ⟨⟨hwn, hwn0⟩, hrn, hsn, ⟨had, had0⟩, ⟨hpn, hpn0, hpb⟩, hz, ⟨hw, hy⟩, ⟨ho, hyo⟩, hh, ht, hik, hkp⟩ := hS
  refine g_aload_n 0 O dX6_fits_0 rfl 0 rfl ?_
  refine g_iload_n 1 O dX6_fits_1 rfl 1 rfl ?_
  refine g_callV 2 O (na := 1) (av := [.int p0]) (c_X6_isHearer l E a mw msd mn mon mhn mrd mtn mad mpn se wo jf ow oj kf ff vf cf tf pb fat whl nw nwd njn rd so vl jg tko sdn hh_ ik kw kh kr kt kc ko p0 hr hh) kl_X6_184 km_X6_isHearer kv_X6_isHearer ki_X6 kc_X6_isHearer (by decide +kernel) rfl (Nat.le_of_ble_eq_true rfl) (Nat.le_of_ble_eq_true rfl) (fun _ h => h) 0 rfl rfl (fun s => s) (fun _ _ _ _ h => h) rfl (Nat.le_of_ble_eq_true rfl) dX6_fits_2 (fun v9 s9 hv9 => ?_)
  obtain ⟨rfl, rfl⟩ := hv9
  refine g_if_ne 5 O 11 dX6_fits_5 (by decide) (fun h5 => ?_) (fun h5 => ?_)
  · -- taken
    have hh4 := hh.2.1
    obtain ⟨p, hp0, hp, hpc⟩ := rng_of (by omega) (ite_t h5)
    refine g_iload_n 11 O dX6_fits_11 rfl 2 rfl ?_
    refine g_iconst 12 O (v := 0) dX6_fits_12 (by decide) ?_
    refine g_iconst 13 O (v := 1) dX6_fits_13 (by decide) ?_
    refine g_callS 14 O (na := 3) (av := [.int p1, .int 0, .int 1]) (c_X6_within l E _ _ p1 0 1) kl_X6_69 ks_X6_within ki_X6 kc_X6_within (by decide +kernel) rfl (Nat.le_of_ble_eq_true rfl) (Nat.le_of_ble_eq_true rfl) (fun _ h => h) (fun s => s) (fun _ _ _ _ h => h) rfl (Nat.le_of_ble_eq_true rfl) dX6_fits_14 (fun v9 s9 hv9 => ?_)
    obtain ⟨rfl, rfl⟩ := hv9
    refine g_if_ne 17 O 23 dX6_fits_17 (by decide) (fun h17 => ?_) (fun h17 => ?_)
    · -- taken
      refine g_aload_n 23 O dX6_fits_23 rfl 0 rfl ?_
      refine g_get 24 O (v := .int mn) inX6 0 rfl rfl 3 (by decide) kf_X6_97 rfl dX6_fits_24 ?_
      refine g_if_eq 27 O 37 dX6_fits_27 (by decide) (fun h27 => ?_) (fun h27 => ?_)
      · -- taken
        have y0 : y.1 = 0 := m0 (by have := hy.1; omega) (hw ▸ h27)
        refine g_bipush 37 O (v := (-103)) dX6_fits_37 (by decide) ?_
        exact g_iret 39 O dX6_fits_39 (by rw [hP0, A_fits, if_pos (ite_t h5), if_pos (ite_t h17), if_pos (Or.inl y0)]; exact ⟨_, rfl, rfl, hS9⟩)
      · -- not taken
        have y0 : ¬ y.1 = 0 := n0 (hw ▸ h27)
        refine g_aload_n 30 O dX6_fits_30 rfl 0 rfl ?_
        refine g_get 31 O (v := .int mtn) inX6 0 rfl rfl 15 (by decide) kf_X6_226 rfl dX6_fits_31 ?_
        refine g_if_ne 34 O 40 dX6_fits_34 (by decide) (fun h34 => ?_) (fun h34 => ?_)
        · -- taken
          have t0 : ¬ tl.1 = 0 := n0 (ht.1 ▸ h34)
          refine g_aload_n 40 O dX6_fits_40 rfl 0 rfl ?_
          refine g_aload_n 41 O dX6_fits_41 rfl 0 rfl ?_
          refine g_get 42 O (v := .int mn) inX6 0 rfl rfl 3 (by decide) kf_X6_97 rfl dX6_fits_42 ?_
          refine g_iconst 45 O (v := 0) dX6_fits_45 (by decide) ?_
          refine g_callV 46 O (na := 2) (av := [.int mn, .int 0]) (c_X6_lay l E a mw msd mn mon mhn mrd mtn mad mpn se wo jf ow oj kf ff vf cf tf pb fat whl nw nwd njn rd so vl jg tko sdn hh_ ik kw kh kr kt kc ko mn 0 y z y.1 hw rfl (YM0 hy) hz) kl_X6_106 km_X6_lay kv_X6_lay ki_X6 kc_X6_lay (by decide +kernel) rfl (Nat.le_of_ble_eq_true rfl) (Nat.le_of_ble_eq_true rfl) (fun _ h => h) 0 rfl rfl (fun s => s) (fun _ _ _ _ h => h) rfl (Nat.le_of_ble_eq_true rfl) dX6_fits_46 (fun v9 s9 hv9 => ?_)
          obtain ⟨rfl, so', vl', jg', rfl, hso⟩ := hv9
          refine g_aload_n 49 O dX6_fits_49 rfl 0 rfl ?_
          refine g_iload_n 50 O dX6_fits_50 rfl 1 rfl ?_
          refine g_iload_n 51 O dX6_fits_51 rfl 2 rfl ?_
          refine g_callV 52 O (na := 2) (av := [.int p0, .int p1]) (c_X6_fitsNow l E a mw msd mn mon mhn mrd mtn mad mpn se wo jf ow oj kf ff vf cf tf pb fat whl nw nwd njn (nI (NR y)) so' vl' jg' tko sdn hh_ ik kw kh kr kt kc ko p0 p1 y z hy.1 rfl hso hr hh p hp hp0 tl ht) kl_X6_229 km_X6_fitsNow kv_X6_fitsNow ki_X6 kc_X6_fitsNow (by decide +kernel) rfl (Nat.le_of_ble_eq_true rfl) (Nat.le_of_ble_eq_true rfl) (fun _ h => h) 0 rfl rfl (fun s => s) (fun _ _ _ _ h => h) rfl (Nat.le_of_ble_eq_true rfl) dX6_fits_52 (fun v9 s9 hv9 => ?_)
          obtain ⟨rfl, rfl⟩ := hv9
          exact g_iret 55 O dX6_fits_55 (by rw [hP0, A_fits, if_pos (ite_t h5), if_pos (ite_t h17), if_neg (fun q => q.elim y0 t0), hpc]; exact ⟨_, rfl, rfl, hS9⟩)
        · -- not taken
          have t0 : tl.1 = 0 := m0 (by have := ht.2.1; omega) (ht.1 ▸ h34)
          refine g_bipush 37 O (v := (-103)) dX6_fits_37 (by decide) ?_
          exact g_iret 39 O dX6_fits_39 (by rw [hP0, A_fits, if_pos (ite_t h5), if_pos (ite_t h17), if_pos (Or.inr t0)]; exact ⟨_, rfl, rfl, hS9⟩)
    · -- not taken
      refine g_bipush 20 O (v := (-102)) dX6_fits_20 (by decide) ?_
      exact g_iret 22 O dX6_fits_22 (by rw [hP0, A_fits, if_pos (ite_t h5), if_neg (ite_f h17)]; exact ⟨_, rfl, rfl, hS9⟩)
  · -- not taken
    refine g_bipush 8 O (v := (-101)) dX6_fits_8 (by decide) ?_
    exact g_iret 10 O dX6_fits_10 (by rw [hP0, A_fits, if_neg (ite_f h5)]; exact ⟨_, rfl, rfl, hS9⟩)

set_option maxRecDepth 100000 in
set_option maxHeartbeats 4000000 in
theorem c_X6_times (l : Launch) (E : Ev) (a : Nat → Nat) (mw msd mn mon mhn mrd mtn mad mpn : Int32) (se wo jf ow oj kf ff vf cf tf pb : Nat → Int32) (fat whl nw : Int32) (nwd njn : Nat → Int32) (rd : Int32) (so vl : Nat → Int64) (jg : Nat → Int32) (tko : Nat → Int32) (sdn hh_ : Int64) (ik kw kh kr kt : Int32) (kc ko : Nat → Int32) (p0 p1 p2 : Int32) (wn : Nat) (rn sn0 : Int32) (adn pn : Nat) (pc : Nat → Int32) (z : Nat → Nat) (y o : Sy) (hr : Hr) (tl : Tl) (ib : Bool) (iw : Nat) (ir : Int32) (ih : Hr) (it : Tl) (hS : RMc mw msd mn mon mhn mrd mtn mad mpn se wo jf ow oj kf ff vf cf tf pb ik kw kh kr kt kc ko wn rn sn0 adn pn pc z y o hr tl ib iw ir ih it) : Ctr l yX6_times cX6_times 4 (some .int) 5 143 E (wM E a) [.ref (a 0), .int p0, .int p1, .int p2] (((mw, msd, mn, mon, mhn, mrd, mtn, mad, mpn), (se, wo, jf, ow, oj, kf, ff, vf, cf, tf, pb), (fat, whl, nw, nwd, njn), (rd, so, vl, jg), tko, (sdn, hh_), (ik, kw, kh, kr, kt, kc, ko))) (pI (fun r x => r = A_times z y hr wn p0 p1 p2 ∧ RM x (((wn, rn, sn0, adn), (pn, pc), z, y, o, hr, tl, ib, iw, ir, ih, it)))) := by
  refine Ctr.of' (by decide +kernel) (Nat.le_of_ble_eq_true rfl) (fun X P0 hP0 O => ?_)
  refine g_sub [0, 1, 2, 3] (lv' := [(0, .ref (a 0)), (1, .int p0), (2, .int p1), (3, .int p2)]) rfl ?_
  have hS9 := hS
  obtain ⟨⟨hwn, hwn0⟩, hrn, hsn, ⟨had, had0⟩, ⟨hpn, hpn0, hpb⟩, hz, ⟨hw, hy⟩, ⟨ho, hyo⟩, hh, ht, hik, hkp⟩ := hS
  refine g_iload_n 0 O dX6_times_0 rfl 1 rfl ?_
  refine g_iconst 1 O (v := 1) dX6_times_1 (by decide) ?_
  refine g_bipush 2 O (v := 60) dX6_times_2 (by decide) ?_
  refine g_callS 4 O (na := 3) (av := [.int p0, .int 1, .int 60]) (c_X6_within l E _ _ p0 1 60) kl_X6_69 ks_X6_within ki_X6 kc_X6_within (by decide +kernel) rfl (Nat.le_of_ble_eq_true rfl) (Nat.le_of_ble_eq_true rfl) (fun _ h => h) (fun s => s) (fun _ _ _ _ h => h) rfl (Nat.le_of_ble_eq_true rfl) dX6_times_4 (fun v9 s9 hv9 => ?_)
  obtain ⟨rfl, rfl⟩ := hv9
  refine g_if_eq 7 O 23 dX6_times_7 (by decide) (fun h7 => ?_) (fun h7 => ?_)
  · -- taken
    refine g_bipush 23 O (v := (-102)) dX6_times_23 (by decide) ?_
    exact g_iret 25 O dX6_times_25 (by rw [hP0, A_times, if_neg (fun q => ite_f h7 q.1)]; exact ⟨_, rfl, rfl, hS9⟩)
  · -- not taken
    refine g_iload_n 10 O dX6_times_10 rfl 2 rfl ?_
    refine g_if_lt 11 O 23 dX6_times_11 (by decide) (fun h11 => ?_) (fun h11 => ?_)
    · -- taken
      refine g_bipush 23 O (v := (-102)) dX6_times_23 (by decide) ?_
      exact g_iret 25 O dX6_times_25 (by rw [hP0, A_times, if_neg (fun q => absurd q.2.1 (Int32.not_le.mpr h11))]; exact ⟨_, rfl, rfl, hS9⟩)
    · -- not taken
      refine g_iload_n 14 O dX6_times_14 rfl 3 rfl ?_
      refine g_iconst 15 O (v := 0) dX6_times_15 (by decide) ?_
      refine g_iconst 16 O (v := 2) dX6_times_16 (by decide) ?_
      refine g_callS 17 O (na := 3) (av := [.int p2, .int 0, .int 2]) (c_X6_within l E _ _ p2 0 2) kl_X6_69 ks_X6_within ki_X6 kc_X6_within (by decide +kernel) rfl (Nat.le_of_ble_eq_true rfl) (Nat.le_of_ble_eq_true rfl) (fun _ h => h) (fun s => s) (fun _ _ _ _ h => h) rfl (Nat.le_of_ble_eq_true rfl) dX6_times_17 (fun v9 s9 hv9 => ?_)
      obtain ⟨rfl, rfl⟩ := hv9
      refine g_if_ne 20 O 26 dX6_times_20 (by decide) (fun h20 => ?_) (fun h20 => ?_)
      · -- taken
        obtain ⟨tn, htn, hp0, htc⟩ := rng_le (n := 60) (by decide) ⟨Int32.le_trans (by decide) (ite_t h7).1, (ite_t h7).2⟩
        obtain ⟨s, hs, hp1⟩ := nI_of (x := p1) h11
        have hsc : p1.toNatClampNeg = s := by rw [hp1]; exact nI_clamp hs
        refine g_aload_n 26 O dX6_times_26 rfl 0 rfl ?_
        refine g_get 27 O (v := .int mn) inX6 0 rfl rfl 3 (by decide) kf_X6_97 rfl dX6_times_27 ?_
        refine g_if_ne 30 O 38 dX6_times_30 (by decide) (fun h30 => ?_) (fun h30 => ?_)
        · -- taken
          have y0 : ¬ y.1 = 0 := n0 (hw ▸ h30)
          refine g_aload_n 38 O dX6_times_38 rfl 0 rfl ?_
          refine g_iload_n 39 O dX6_times_39 rfl 1 rfl ?_
          refine g_iload_n 40 O dX6_times_40 rfl 2 rfl ?_
          refine g_iload_n 41 O dX6_times_41 rfl 3 rfl ?_
          refine g_callV 42 O (na := 3) (av := [.int p0, .int p1, .int p2]) (c_X6_timesNow l E a mw msd mn mon mhn mrd mtn mad mpn se wo jf ow oj kf ff vf cf tf pb fat whl nw nwd njn rd so vl jg tko sdn hh_ ik kw kh kr kt kc ko p0 p1 p2 y z hw hy hz hr hh y0 wn hwn hwn0 tn s hp0 htn hp1 (by omega)) kl_X6_247 km_X6_timesNow kv_X6_timesNow ki_X6 kc_X6_timesNow (by decide +kernel) rfl (Nat.le_of_ble_eq_true rfl) (Nat.le_of_ble_eq_true rfl) (fun _ h => h) 0 rfl rfl (fun s => s) (fun _ _ _ _ h => h) rfl (Nat.le_of_ble_eq_true rfl) dX6_times_42 (fun v9 s9 hv9 => ?_)
          obtain ⟨r9, rfl, rfl, so', vl', jg', tko', sd', rfl⟩ := hv9
          exact g_iret 45 O dX6_times_45 (by rw [hP0, A_times, if_pos ⟨ite_t h7, Int32.not_lt.mp h11, ite_t h20⟩, if_neg y0, htc, hsc]; exact ⟨_, rfl, rfl, hS9⟩)
        · -- not taken
          have y0 : y.1 = 0 := m0 (by have := hy.1; omega) (hw ▸ h30)
          refine g_bipush 33 O (v := (-103)) dX6_times_33 (by decide) ?_
          refine g_goto 35 O 45 dX6_times_35 (by decide) ?_
          exact g_iret 45 O dX6_times_45 (by rw [hP0, A_times, if_pos ⟨ite_t h7, Int32.not_lt.mp h11, ite_t h20⟩, if_pos y0]; exact ⟨_, rfl, rfl, hS9⟩)
      · -- not taken
        refine g_bipush 23 O (v := (-102)) dX6_times_23 (by decide) ?_
        exact g_iret 25 O dX6_times_25 (by rw [hP0, A_times, if_neg (fun q => ite_f h20 q.2.2)]; exact ⟨_, rfl, rfl, hS9⟩)

theorem KM_im {mw mhn mrd mtn : Int32} {kf ff vf cf tf kc ko : Nat → Int32} {wn : Nat} {rn : Int32} {hr : Hr} {tl : Tl} (hw : mw = nI wn ∧ wn < 64) (hrn : mrd = rn) (hh : HrW (mhn, kf, ff, vf, cf) hr) (ht : TlW (mtn, tf) tl) (hc : ∀ i, i < 4 → kc i = cf i) (ho : ∀ i, i < 6 → ko i = tf i) : KM mw mhn mrd mtn kc ko hr wn rn hr tl :=
  ⟨hw, hrn, ⟨hh.1, Nat.le_refl _, fun k hk => ⟨⟨rfl, rfl, rfl⟩, by rw [hc k (by have := hh.2.1; omega)]; exact (hh.2.2 k hk).2.2.2⟩⟩, ⟨ht.1, ht.2.1, fun k hk => by rw [ho k (by have := ht.2.1; omega)]; exact ht.2.2 k hk⟩⟩
theorem KM_h0 {mhn kw kh kr kt : Int32} {kf ff vf cf kc ko cf1 : Nat → Int32} {hr : Hr} {iw : Nat} {ir : Int32} {ih : Hr} {it : Tl} (hh : HrW (mhn, kf, ff, vf, cf) hr) (h : KM kw kh kr kt kc ko hr iw ir ih it) (hc : ∀ i, i < 4 → cf1 i = kc i) : HrW (kh, kf, ff, vf, cf1) ih := by
  obtain ⟨-, -, ⟨h1, h2, h3⟩, -⟩ := h
  have h4 := hh.2.1
  refine ⟨h1, by omega, fun k hk => ?_⟩
  obtain ⟨⟨a1, a2, a3⟩, a4⟩ := h3 k hk
  obtain ⟨b1, b2, b3, -⟩ := hh.2.2 k (by omega)
  exact ⟨by rw [a1]; exact b1, by rw [a2]; exact b2, by rw [a3]; exact b3, by show cf1 k = _; rw [hc k (by omega)]; exact a4⟩
theorem KM_t0 {kw kh kr kt : Int32} {kc ko tf1 : Nat → Int32} {hr : Hr} {iw : Nat} {ir : Int32} {ih : Hr} {it : Tl} (h : KM kw kh kr kt kc ko hr iw ir ih it) (hc : ∀ i, i < 6 → tf1 i = ko i) : TlW (kt, tf1) it := by
  obtain ⟨-, -, -, h1, h2, h3⟩ := h
  exact ⟨h1, h2, fun k hk => by show tf1 k = _ ∧ _; rw [hc k (by omega)]; exact h3 k hk⟩
theorem KM_s {kw kh kr kt : Int32} {kc ko : Nat → Int32} {hr : Hr} {iw : Nat} {ir : Int32} {ih : Hr} {it : Tl} (h : KM kw kh kr kt kc ko hr iw ir ih it) : KM kw kh kr kt kc ko ih iw ir ih it := by
  obtain ⟨a, b, ⟨c1, c2, c3⟩, d⟩ := h
  exact ⟨a, b, ⟨c1, Nat.le_refl _, fun k hk => ⟨⟨rfl, rfl, rfl⟩, (c3 k hk).2⟩⟩, d⟩

set_option maxRecDepth 100000 in
set_option maxHeartbeats 4000000 in
theorem c_X6_image (l : Launch) (E : Ev) (a : Nat → Nat) (mw msd mn mon mhn mrd mtn mad mpn : Int32) (se wo jf ow oj kf ff vf cf tf pb : Nat → Int32) (fat whl nw : Int32) (nwd njn : Nat → Int32) (rd : Int32) (so vl : Nat → Int64) (jg : Nat → Int32) (tko : Nat → Int32) (sdn hh_ : Int64) (ik kw kh kr kt : Int32) (kc ko : Nat → Int32) (wn : Nat) (rn sn0 : Int32) (adn pn : Nat) (pc : Nat → Int32) (z : Nat → Nat) (y o : Sy) (hr : Hr) (tl : Tl) (ib : Bool) (iw : Nat) (ir : Int32) (ih : Hr) (it : Tl) (hS : RMc mw msd mn mon mhn mrd mtn mad mpn se wo jf ow oj kf ff vf cf tf pb ik kw kh kr kt kc ko wn rn sn0 adn pn pc z y o hr tl ib iw ir ih it) : Ctr l yX6_image cX6_image 2 (some .int) 0 0 E (wM E a) [.ref (a 0)] (((mw, msd, mn, mon, mhn, mrd, mtn, mad, mpn), (se, wo, jf, ow, oj, kf, ff, vf, cf, tf, pb), (fat, whl, nw, nwd, njn), (rd, so, vl, jg), tko, (sdn, hh_), (ik, kw, kh, kr, kt, kc, ko))) (pI (fun r x => r = nI wn ∧ RM x (NS_image ((wn, rn, sn0, adn), (pn, pc), z, y, o, hr, tl, ib, iw, ir, ih, it)))) := by
  refine Ctr.of' (by decide +kernel) (Nat.le_of_ble_eq_true rfl) (fun X P0 hP0 O => ?_)
  refine g_sub [0] (lv' := [(0, .ref (a 0))]) rfl ?_
  have hS9 := hS
  obtain ⟨⟨hwn, hwn0⟩, hrn, hsn, ⟨had, had0⟩, ⟨hpn, hpn0, hpb⟩, hz, ⟨hw, hy⟩, ⟨ho, hyo⟩, hh, ht, hik, hkp⟩ := hS
  refine g_aload_n 0 O dX6_image_0 rfl 0 rfl ?_
  refine g_iconst 1 O (v := 1) dX6_image_1 (by decide) ?_
  refine g_put 2 O inX6 tyX6_ok nmX6 (((mw, msd, mn, mon, mhn, mrd, mtn, mad, mpn), (se, wo, jf, ow, oj, kf, ff, vf, cf, tf, pb), (fat, whl, nw, nwd, njn), (rd, so, vl, jg), tko, (sdn, hh_), (1, kw, kh, kr, kt, kc, ko))) 0 rfl rfl 31 (by decide) kf_X6_250 rfl (rfl) (rfl) (Nat.le_of_ble_eq_true rfl) rfl dX6_image_2 ?_
  refine g_aload_n 5 O dX6_image_5 rfl 0 rfl ?_
  refine g_aload_n 6 O dX6_image_6 rfl 0 rfl ?_
  refine g_get 7 O (v := .int mw) inX6 0 rfl rfl 0 (by decide) kf_X6_162 rfl dX6_image_7 ?_
  refine g_put 10 O inX6 tyX6_ok nmX6 (((mw, msd, mn, mon, mhn, mrd, mtn, mad, mpn), (se, wo, jf, ow, oj, kf, ff, vf, cf, tf, pb), (fat, whl, nw, nwd, njn), (rd, so, vl, jg), tko, (sdn, hh_), (1, mw, kh, kr, kt, kc, ko))) 0 rfl rfl 32 (by decide) kf_X6_253 rfl (rfl) (rfl) (Nat.le_of_ble_eq_true rfl) rfl dX6_image_10 ?_
  refine g_aload_n 13 O dX6_image_13 rfl 0 rfl ?_
  refine g_aload_n 14 O dX6_image_14 rfl 0 rfl ?_
  refine g_get 15 O (v := .int mhn) inX6 0 rfl rfl 9 (by decide) kf_X6_175 rfl dX6_image_15 ?_
  refine g_put 18 O inX6 tyX6_ok nmX6 (((mw, msd, mn, mon, mhn, mrd, mtn, mad, mpn), (se, wo, jf, ow, oj, kf, ff, vf, cf, tf, pb), (fat, whl, nw, nwd, njn), (rd, so, vl, jg), tko, (sdn, hh_), (1, mw, mhn, kr, kt, kc, ko))) 0 rfl rfl 33 (by decide) kf_X6_256 rfl (rfl) (rfl) (Nat.le_of_ble_eq_true rfl) rfl dX6_image_18 ?_
  refine g_aload_n 21 O dX6_image_21 rfl 0 rfl ?_
  refine g_aload_n 22 O dX6_image_22 rfl 0 rfl ?_
  refine g_get 23 O (v := .int mrd) inX6 0 rfl rfl 14 (by decide) kf_X6_197 rfl dX6_image_23 ?_
  refine g_put 26 O inX6 tyX6_ok nmX6 (((mw, msd, mn, mon, mhn, mrd, mtn, mad, mpn), (se, wo, jf, ow, oj, kf, ff, vf, cf, tf, pb), (fat, whl, nw, nwd, njn), (rd, so, vl, jg), tko, (sdn, hh_), (1, mw, mhn, mrd, kt, kc, ko))) 0 rfl rfl 34 (by decide) kf_X6_259 rfl (rfl) (rfl) (Nat.le_of_ble_eq_true rfl) rfl dX6_image_26 ?_
  refine g_aload_n 29 O dX6_image_29 rfl 0 rfl ?_
  refine g_aload_n 30 O dX6_image_30 rfl 0 rfl ?_
  refine g_get 31 O (v := .int mtn) inX6 0 rfl rfl 15 (by decide) kf_X6_226 rfl dX6_image_31 ?_
  refine g_put 34 O inX6 tyX6_ok nmX6 (((mw, msd, mn, mon, mhn, mrd, mtn, mad, mpn), (se, wo, jf, ow, oj, kf, ff, vf, cf, tf, pb), (fat, whl, nw, nwd, njn), (rd, so, vl, jg), tko, (sdn, hh_), (1, mw, mhn, mrd, mtn, kc, ko))) 0 rfl rfl 35 (by decide) kf_X6_262 rfl (rfl) (rfl) (Nat.le_of_ble_eq_true rfl) rfl dX6_image_34 ?_
  refine g_iconst 37 O (v := 0) dX6_image_37 (by decide) ?_
  refine g_istore_n 38 O (lv' := [(1, .int 0), (0, .ref (a 0))]) dX6_image_38 rfl (by decide) rfl ?_
  refine g_sub [0, 1] (lv' := [(1, .int 0), (0, .ref (a 0))]) rfl ?_
  have L39 : ∀ (fuel : Nat) (k : Nat) (kc1 : Nat → Int32) (hk : k ≤ 4) (hc1 : ∀ i, i < k → kc1 i = cf i), 4 - k < fuel → G l E (wM E a) P0 X 2 (((mw, msd, mn, mon, mhn, mrd, mtn, mad, mpn), (se, wo, jf, ow, oj, kf, ff, vf, cf, tf, pb), (fat, whl, nw, nwd, njn), (rd, so, vl, jg), tko, (sdn, hh_), (1, mw, mhn, mrd, mtn, kc1, ko))) 39 [(1, .int (nI k)), (0, .ref (a 0))] [] := by
    intro fuel
    induction fuel with
    | zero => intro k kc1 hk hc1 hfu; exact absurd hfu (Nat.not_lt_zero _)
    | succ fuel ih39 =>
      intro k kc1 hk hc1 hfu
      refine g_iload_n 39 O dX6_image_39 rfl 0 rfl ?_
      refine g_iconst 40 O (v := 4) dX6_image_40 (by decide) ?_
      refine g_icmp_ge 41 O 62 dX6_image_41 (by decide) (fun h41 => ?_) (fun h41 => ?_)
      · -- taken
        have e : k = 4 := by have := ge_of_le (n := 4) (by omega) (by decide) h41; omega
        subst e
        refine g_iconst 62 O (v := 0) dX6_image_62 (by decide) ?_
        refine g_istore_n 63 O (lv' := [(1, .int 0), (0, .ref (a 0))]) dX6_image_63 rfl (by decide) rfl ?_
        refine g_sub [0, 1] (lv' := [(1, .int 0), (0, .ref (a 0))]) rfl ?_
        have L64 : ∀ (fuel : Nat) (k : Nat) (ko1 : Nat → Int32) (hk : k ≤ 6) (ho1 : ∀ i, i < k → ko1 i = tf i), 6 - k < fuel → G l E (wM E a) P0 X 2 (((mw, msd, mn, mon, mhn, mrd, mtn, mad, mpn), (se, wo, jf, ow, oj, kf, ff, vf, cf, tf, pb), (fat, whl, nw, nwd, njn), (rd, so, vl, jg), tko, (sdn, hh_), (1, mw, mhn, mrd, mtn, kc1, ko1))) 64 [(1, .int (nI k)), (0, .ref (a 0))] [] := by
          intro fuel
          induction fuel with
          | zero => intro k ko1 hk ho1 hfu; exact absurd hfu (Nat.not_lt_zero _)
          | succ fuel ih64 =>
            intro k ko1 hk ho1 hfu
            refine g_iload_n 64 O dX6_image_64 rfl 0 rfl ?_
            refine g_bipush 65 O (v := 6) dX6_image_65 (by decide) ?_
            refine g_icmp_ge 67 O 88 dX6_image_67 (by decide) (fun h67 => ?_) (fun h67 => ?_)
            · -- taken
              have e : k = 6 := by have := ge_of_le (n := 6) (by omega) (by decide) h67; omega
              subst e
              refine g_aload_n 88 O dX6_image_88 rfl 1 rfl ?_
              refine g_get 89 O (v := .int mw) inX6 0 rfl rfl 0 (by decide) kf_X6_162 rfl dX6_image_89 ?_
              refine g_si (nI wn) (hwn) ?_
              exact g_iret 92 O dX6_image_92 (by rw [hP0]; exact ⟨_, rfl, rfl, ⟨⟨hwn, hwn0⟩, hrn, hsn, ⟨had, had0⟩, ⟨hpn, hpn0, hpb⟩, hz, ⟨hw, hy⟩, ⟨ho, hyo⟩, hh, ht, rfl, fun _ => KM_im ⟨hwn, hwn0⟩ hrn hh ht hc1 ho1⟩⟩)
            · -- not taken
              have hlt : k < 6 := lt_of_nge (n := 6) (by omega) h67
              refine g_aload_n 70 O dX6_image_70 rfl 1 rfl ?_
              refine g_get 71 O (v := .ref (a 19)) inX6 0 rfl rfl 37 (by decide) kf_X6_66 rfl dX6_image_71 ?_
              refine g_iload_n 74 O dX6_image_74 rfl 0 rfl ?_
              refine g_aload_n 75 O dX6_image_75 rfl 1 rfl ?_
              refine g_get 76 O (v := .ref (a 10)) inX6 0 rfl rfl 16 (by decide) kf_X6_37 rfl dX6_image_76 ?_
              refine g_iload_n 79 O dX6_image_79 rfl 0 rfl ?_
              refine g_iald 80 O 10 k rfl (rfl) (by omega) (by decide) dX6_image_80 ?_
              refine g_iast 81 O (((mw, msd, mn, mon, mhn, mrd, mtn, mad, mpn), (se, wo, jf, ow, oj, kf, ff, vf, cf, tf, pb), (fat, whl, nw, nwd, njn), (rd, so, vl, jg), tko, (sdn, hh_), (1, mw, mhn, mrd, mtn, kc1, upd ko1 k (tf k)))) 19 k rfl (rfl) (by omega) (by decide) rfl dX6_image_81 ?_
              refine g_iinc 82 O (v := nI (k + 1)) (q := 0) (lv' := [(1, .int (nI (k + 1))), (0, .ref (a 0))]) dX6_image_82 rfl (nI_1 k) (by decide) rfl ?_
              refine g_goto 85 O 64 dX6_image_85 (by decide) ?_
              refine g_sub [0, 1] (lv' := [(1, .int (nI (k + 1))), (0, .ref (a 0))]) rfl ?_
              exact ih64 (k + 1) (upd ko1 k (tf k)) (by omega) (upd_ext ho1 rfl) (by omega)
        exact L64 _ 0 ko (Nat.zero_le _) (fun i h => absurd h (Nat.not_lt_zero _)) (Nat.lt_succ_self _)
      · -- not taken
        have hlt : k < 4 := lt_of_nge (n := 4) (by omega) h41
        refine g_aload_n 44 O dX6_image_44 rfl 1 rfl ?_
        refine g_get 45 O (v := .ref (a 18)) inX6 0 rfl rfl 36 (by decide) kf_X6_63 rfl dX6_image_45 ?_
        refine g_iload_n 48 O dX6_image_48 rfl 0 rfl ?_
        refine g_aload_n 49 O dX6_image_49 rfl 1 rfl ?_
        refine g_get 50 O (v := .ref (a 9)) inX6 0 rfl rfl 13 (by decide) kf_X6_34 rfl dX6_image_50 ?_
        refine g_iload_n 53 O dX6_image_53 rfl 0 rfl ?_
        refine g_iald 54 O 9 k rfl (rfl) (by omega) (by decide) dX6_image_54 ?_
        refine g_iast 55 O (((mw, msd, mn, mon, mhn, mrd, mtn, mad, mpn), (se, wo, jf, ow, oj, kf, ff, vf, cf, tf, pb), (fat, whl, nw, nwd, njn), (rd, so, vl, jg), tko, (sdn, hh_), (1, mw, mhn, mrd, mtn, upd kc1 k (cf k), ko))) 18 k rfl (rfl) (by omega) (by decide) rfl dX6_image_55 ?_
        refine g_iinc 56 O (v := nI (k + 1)) (q := 0) (lv' := [(1, .int (nI (k + 1))), (0, .ref (a 0))]) dX6_image_56 rfl (nI_1 k) (by decide) rfl ?_
        refine g_goto 59 O 39 dX6_image_59 (by decide) ?_
        refine g_sub [0, 1] (lv' := [(1, .int (nI (k + 1))), (0, .ref (a 0))]) rfl ?_
        exact ih39 (k + 1) (upd kc1 k (cf k)) (by omega) (upd_ext hc1 rfl) (by omega)
  exact L39 _ 0 kc (Nat.zero_le _) (fun i h => absurd h (Nat.not_lt_zero _)) (Nat.lt_succ_self _)

set_option maxRecDepth 100000 in
set_option maxHeartbeats 4000000 in
theorem c_X6_restore (l : Launch) (E : Ev) (a : Nat → Nat) (mw msd mn mon mhn mrd mtn mad mpn : Int32) (se wo jf ow oj kf ff vf cf tf pb : Nat → Int32) (fat whl nw : Int32) (nwd njn : Nat → Int32) (rd : Int32) (so vl : Nat → Int64) (jg : Nat → Int32) (tko : Nat → Int32) (sdn hh_ : Int64) (ik kw kh kr kt : Int32) (kc ko : Nat → Int32) (wn : Nat) (rn sn0 : Int32) (adn pn : Nat) (pc : Nat → Int32) (z : Nat → Nat) (y o : Sy) (hr : Hr) (tl : Tl) (ib : Bool) (iw : Nat) (ir : Int32) (ih : Hr) (it : Tl) (hS : RMc mw msd mn mon mhn mrd mtn mad mpn se wo jf ow oj kf ff vf cf tf pb ik kw kh kr kt kc ko wn rn sn0 adn pn pc z y o hr tl ib iw ir ih it) : Ctr l yX6_restore cX6_restore 2 (some .int) 0 0 E (wM E a) [.ref (a 0)] (((mw, msd, mn, mon, mhn, mrd, mtn, mad, mpn), (se, wo, jf, ow, oj, kf, ff, vf, cf, tf, pb), (fat, whl, nw, nwd, njn), (rd, so, vl, jg), tko, (sdn, hh_), (ik, kw, kh, kr, kt, kc, ko))) (pI (fun r x => r = A_restore ((wn, rn, sn0, adn), (pn, pc), z, y, o, hr, tl, ib, iw, ir, ih, it) ∧ RM x (NS_restore ((wn, rn, sn0, adn), (pn, pc), z, y, o, hr, tl, ib, iw, ir, ih, it)))) := by
  refine Ctr.of' (by decide +kernel) (Nat.le_of_ble_eq_true rfl) (fun X P0 hP0 O => ?_)
  refine g_sub [0] (lv' := [(0, .ref (a 0))]) rfl ?_
  have hS9 := hS
  obtain ⟨⟨hwn, hwn0⟩, hrn, hsn, ⟨had, had0⟩, ⟨hpn, hpn0, hpb⟩, hz, ⟨hw, hy⟩, ⟨ho, hyo⟩, hh, ht, hik, hkp⟩ := hS
  refine g_aload_n 0 O dX6_restore_0 rfl 0 rfl ?_
  refine g_get 1 O (v := .int ik) inX6 0 rfl rfl 31 (by decide) kf_X6_250 rfl dX6_restore_1 ?_
  refine g_si (bi ib) (hik) ?_
  refine g_if_ne 4 O 10 dX6_restore_4 (by decide) (fun h4 => ?_) (fun h4 => ?_)
  · -- taken
    have hib := bi_t h4
    have hKM := hkp hib
    refine g_aload_n 10 O dX6_restore_10 rfl 0 rfl ?_
    refine g_aload_n 11 O dX6_restore_11 rfl 0 rfl ?_
    refine g_get 12 O (v := .int kw) inX6 0 rfl rfl 32 (by decide) kf_X6_253 rfl dX6_restore_12 ?_
    refine g_put 15 O inX6 tyX6_ok nmX6 (((kw, msd, mn, mon, mhn, mrd, mtn, mad, mpn), (se, wo, jf, ow, oj, kf, ff, vf, cf, tf, pb), (fat, whl, nw, nwd, njn), (rd, so, vl, jg), tko, (sdn, hh_), (ik, kw, kh, kr, kt, kc, ko))) 0 rfl rfl 0 (by decide) kf_X6_162 rfl (rfl) (rfl) (Nat.le_of_ble_eq_true rfl) rfl dX6_restore_15 ?_
    refine g_aload_n 18 O dX6_restore_18 rfl 0 rfl ?_
    refine g_aload_n 19 O dX6_restore_19 rfl 0 rfl ?_
    refine g_get 20 O (v := .int kh) inX6 0 rfl rfl 33 (by decide) kf_X6_256 rfl dX6_restore_20 ?_
    refine g_put 23 O inX6 tyX6_ok nmX6 (((kw, msd, mn, mon, kh, mrd, mtn, mad, mpn), (se, wo, jf, ow, oj, kf, ff, vf, cf, tf, pb), (fat, whl, nw, nwd, njn), (rd, so, vl, jg), tko, (sdn, hh_), (ik, kw, kh, kr, kt, kc, ko))) 0 rfl rfl 9 (by decide) kf_X6_175 rfl (rfl) (rfl) (Nat.le_of_ble_eq_true rfl) rfl dX6_restore_23 ?_
    refine g_aload_n 26 O dX6_restore_26 rfl 0 rfl ?_
    refine g_aload_n 27 O dX6_restore_27 rfl 0 rfl ?_
    refine g_get 28 O (v := .int kr) inX6 0 rfl rfl 34 (by decide) kf_X6_259 rfl dX6_restore_28 ?_
    refine g_put 31 O inX6 tyX6_ok nmX6 (((kw, msd, mn, mon, kh, kr, mtn, mad, mpn), (se, wo, jf, ow, oj, kf, ff, vf, cf, tf, pb), (fat, whl, nw, nwd, njn), (rd, so, vl, jg), tko, (sdn, hh_), (ik, kw, kh, kr, kt, kc, ko))) 0 rfl rfl 14 (by decide) kf_X6_197 rfl (rfl) (rfl) (Nat.le_of_ble_eq_true rfl) rfl dX6_restore_31 ?_
    refine g_aload_n 34 O dX6_restore_34 rfl 0 rfl ?_
    refine g_aload_n 35 O dX6_restore_35 rfl 0 rfl ?_
    refine g_get 36 O (v := .int kt) inX6 0 rfl rfl 35 (by decide) kf_X6_262 rfl dX6_restore_36 ?_
    refine g_put 39 O inX6 tyX6_ok nmX6 (((kw, msd, mn, mon, kh, kr, kt, mad, mpn), (se, wo, jf, ow, oj, kf, ff, vf, cf, tf, pb), (fat, whl, nw, nwd, njn), (rd, so, vl, jg), tko, (sdn, hh_), (ik, kw, kh, kr, kt, kc, ko))) 0 rfl rfl 15 (by decide) kf_X6_226 rfl (rfl) (rfl) (Nat.le_of_ble_eq_true rfl) rfl dX6_restore_39 ?_
    refine g_iconst 42 O (v := 0) dX6_restore_42 (by decide) ?_
    refine g_istore_n 43 O (lv' := [(1, .int 0), (0, .ref (a 0))]) dX6_restore_43 rfl (by decide) rfl ?_
    refine g_sub [0, 1] (lv' := [(1, .int 0), (0, .ref (a 0))]) rfl ?_
    have L44 : ∀ (fuel : Nat) (k : Nat) (cf1 : Nat → Int32) (hk : k ≤ 4) (hc1 : ∀ i, i < k → cf1 i = kc i), 4 - k < fuel → G l E (wM E a) P0 X 2 (((kw, msd, mn, mon, kh, kr, kt, mad, mpn), (se, wo, jf, ow, oj, kf, ff, vf, cf1, tf, pb), (fat, whl, nw, nwd, njn), (rd, so, vl, jg), tko, (sdn, hh_), (ik, kw, kh, kr, kt, kc, ko))) 44 [(1, .int (nI k)), (0, .ref (a 0))] [] := by
      intro fuel
      induction fuel with
      | zero => intro k cf1 hk hc1 hfu; exact absurd hfu (Nat.not_lt_zero _)
      | succ fuel ih44 =>
        intro k cf1 hk hc1 hfu
        refine g_iload_n 44 O dX6_restore_44 rfl 0 rfl ?_
        refine g_iconst 45 O (v := 4) dX6_restore_45 (by decide) ?_
        refine g_icmp_ge 46 O 67 dX6_restore_46 (by decide) (fun h46 => ?_) (fun h46 => ?_)
        · -- taken
          have e : k = 4 := by have := ge_of_le (n := 4) (by omega) (by decide) h46; omega
          subst e
          refine g_iconst 67 O (v := 0) dX6_restore_67 (by decide) ?_
          refine g_istore_n 68 O (lv' := [(1, .int 0), (0, .ref (a 0))]) dX6_restore_68 rfl (by decide) rfl ?_
          refine g_sub [0, 1] (lv' := [(1, .int 0), (0, .ref (a 0))]) rfl ?_
          have L69 : ∀ (fuel : Nat) (k : Nat) (tf1 : Nat → Int32) (hk : k ≤ 6) (ho1 : ∀ i, i < k → tf1 i = ko i), 6 - k < fuel → G l E (wM E a) P0 X 2 (((kw, msd, mn, mon, kh, kr, kt, mad, mpn), (se, wo, jf, ow, oj, kf, ff, vf, cf1, tf1, pb), (fat, whl, nw, nwd, njn), (rd, so, vl, jg), tko, (sdn, hh_), (ik, kw, kh, kr, kt, kc, ko))) 69 [(1, .int (nI k)), (0, .ref (a 0))] [] := by
            intro fuel
            induction fuel with
            | zero => intro k tf1 hk ho1 hfu; exact absurd hfu (Nat.not_lt_zero _)
            | succ fuel ih69 =>
              intro k tf1 hk ho1 hfu
              refine g_iload_n 69 O dX6_restore_69 rfl 0 rfl ?_
              refine g_bipush 70 O (v := 6) dX6_restore_70 (by decide) ?_
              refine g_icmp_ge 72 O 93 dX6_restore_72 (by decide) (fun h72 => ?_) (fun h72 => ?_)
              · -- taken
                have e : k = 6 := by have := ge_of_le (n := 6) (by omega) (by decide) h72; omega
                subst e
                refine g_aload_n 93 O dX6_restore_93 rfl 1 rfl ?_
                refine g_get 94 O (v := .int kw) inX6 0 rfl rfl 0 (by decide) kf_X6_162 rfl dX6_restore_94 ?_
                refine g_si (nI iw) (hKM.1.1) ?_
                exact g_iret 97 O dX6_restore_97 (by rw [hP0, A_restore, if_pos (show ib = true from hib), NS_restore, if_pos (show ib = true from hib)]; exact ⟨_, rfl, rfl, ⟨hKM.1, hKM.2.1, hsn, ⟨had, had0⟩, ⟨hpn, hpn0, hpb⟩, hz, ⟨hw, hy⟩, ⟨ho, hyo⟩, KM_h0 hh hKM hc1, KM_t0 hKM ho1, hik, fun _ => KM_s hKM⟩⟩)
              · -- not taken
                have hlt : k < 6 := lt_of_nge (n := 6) (by omega) h72
                refine g_aload_n 75 O dX6_restore_75 rfl 1 rfl ?_
                refine g_get 76 O (v := .ref (a 10)) inX6 0 rfl rfl 16 (by decide) kf_X6_37 rfl dX6_restore_76 ?_
                refine g_iload_n 79 O dX6_restore_79 rfl 0 rfl ?_
                refine g_aload_n 80 O dX6_restore_80 rfl 1 rfl ?_
                refine g_get 81 O (v := .ref (a 19)) inX6 0 rfl rfl 37 (by decide) kf_X6_66 rfl dX6_restore_81 ?_
                refine g_iload_n 84 O dX6_restore_84 rfl 0 rfl ?_
                refine g_iald 85 O 19 k rfl (rfl) (by omega) (by decide) dX6_restore_85 ?_
                refine g_iast 86 O (((kw, msd, mn, mon, kh, kr, kt, mad, mpn), (se, wo, jf, ow, oj, kf, ff, vf, cf1, upd tf1 k (ko k), pb), (fat, whl, nw, nwd, njn), (rd, so, vl, jg), tko, (sdn, hh_), (ik, kw, kh, kr, kt, kc, ko))) 10 k rfl (rfl) (by omega) (by decide) rfl dX6_restore_86 ?_
                refine g_iinc 87 O (v := nI (k + 1)) (q := 0) (lv' := [(1, .int (nI (k + 1))), (0, .ref (a 0))]) dX6_restore_87 rfl (nI_1 k) (by decide) rfl ?_
                refine g_goto 90 O 69 dX6_restore_90 (by decide) ?_
                refine g_sub [0, 1] (lv' := [(1, .int (nI (k + 1))), (0, .ref (a 0))]) rfl ?_
                exact ih69 (k + 1) (upd tf1 k (ko k)) (by omega) (upd_ext ho1 rfl) (by omega)
          exact L69 _ 0 tf (Nat.zero_le _) (fun i h => absurd h (Nat.not_lt_zero _)) (Nat.lt_succ_self _)
        · -- not taken
          have hlt : k < 4 := lt_of_nge (n := 4) (by omega) h46
          refine g_aload_n 49 O dX6_restore_49 rfl 1 rfl ?_
          refine g_get 50 O (v := .ref (a 9)) inX6 0 rfl rfl 13 (by decide) kf_X6_34 rfl dX6_restore_50 ?_
          refine g_iload_n 53 O dX6_restore_53 rfl 0 rfl ?_
          refine g_aload_n 54 O dX6_restore_54 rfl 1 rfl ?_
          refine g_get 55 O (v := .ref (a 18)) inX6 0 rfl rfl 36 (by decide) kf_X6_63 rfl dX6_restore_55 ?_
          refine g_iload_n 58 O dX6_restore_58 rfl 0 rfl ?_
          refine g_iald 59 O 18 k rfl (rfl) (by omega) (by decide) dX6_restore_59 ?_
          refine g_iast 60 O (((kw, msd, mn, mon, kh, kr, kt, mad, mpn), (se, wo, jf, ow, oj, kf, ff, vf, upd cf1 k (kc k), tf, pb), (fat, whl, nw, nwd, njn), (rd, so, vl, jg), tko, (sdn, hh_), (ik, kw, kh, kr, kt, kc, ko))) 9 k rfl (rfl) (by omega) (by decide) rfl dX6_restore_60 ?_
          refine g_iinc 61 O (v := nI (k + 1)) (q := 0) (lv' := [(1, .int (nI (k + 1))), (0, .ref (a 0))]) dX6_restore_61 rfl (nI_1 k) (by decide) rfl ?_
          refine g_goto 64 O 44 dX6_restore_64 (by decide) ?_
          refine g_sub [0, 1] (lv' := [(1, .int (nI (k + 1))), (0, .ref (a 0))]) rfl ?_
          exact ih44 (k + 1) (upd cf1 k (kc k)) (by omega) (upd_ext hc1 rfl) (by omega)
    exact L44 _ 0 cf (Nat.zero_le _) (fun i h => absurd h (Nat.not_lt_zero _)) (Nat.lt_succ_self _)
  · -- not taken
    have hib := bi_f h4
    refine g_bipush 7 O (v := (-103)) dX6_restore_7 (by decide) ?_
    exact g_iret 9 O dX6_restore_9 (by rw [hP0, A_restore, if_neg (show ¬ ib = true from by rw [hib]; decide), NS_restore, if_neg (show ¬ ib = true from by rw [hib]; decide)]; exact ⟨_, rfl, rfl, hS9⟩)

set_option maxRecDepth 100000 in
set_option maxHeartbeats 4000000 in
theorem c_X6_count (l : Launch) (E : Ev) (a : Nat → Nat) (mw msd mn mon mhn mrd mtn mad mpn : Int32) (se wo jf ow oj kf ff vf cf tf pb : Nat → Int32) (fat whl nw : Int32) (nwd njn : Nat → Int32) (rd : Int32) (so vl : Nat → Int64) (jg : Nat → Int32) (tko : Nat → Int32) (sdn hh_ : Int64) (ik kw kh kr kt : Int32) (kc ko : Nat → Int32) (p0 : Int32) (wn : Nat) (rn sn0 : Int32) (adn pn : Nat) (pc : Nat → Int32) (z : Nat → Nat) (y o : Sy) (hr : Hr) (tl : Tl) (ib : Bool) (iw : Nat) (ir : Int32) (ih : Hr) (it : Tl) (hS : RMc mw msd mn mon mhn mrd mtn mad mpn se wo jf ow oj kf ff vf cf tf pb ik kw kh kr kt kc ko wn rn sn0 adn pn pc z y o hr tl ib iw ir ih it) : Ctr l yX6_count cX6_count 2 (some .int) 4 89 E (wM E a) [.ref (a 0), .int p0] (((mw, msd, mn, mon, mhn, mrd, mtn, mad, mpn), (se, wo, jf, ow, oj, kf, ff, vf, cf, tf, pb), (fat, whl, nw, nwd, njn), (rd, so, vl, jg), tko, (sdn, hh_), (ik, kw, kh, kr, kt, kc, ko))) (pI (fun r x => r = cntN ((wn, rn, sn0, adn), (pn, pc), z, y, o, hr, tl, ib, iw, ir, ih, it) p0 ∧ RM x (((wn, rn, sn0, adn), (pn, pc), z, y, o, hr, tl, ib, iw, ir, ih, it)))) := by
  refine Ctr.of' (by decide +kernel) (Nat.le_of_ble_eq_true rfl) (fun X P0 hP0 O => ?_)
  refine g_sub [0, 1] (lv' := [(0, .ref (a 0)), (1, .int p0)]) rfl ?_
  have hS9 := hS
  obtain ⟨⟨hwn, hwn0⟩, hrn, hsn, ⟨had, had0⟩, ⟨hpn, hpn0, hpb⟩, hz, ⟨hw, hy⟩, ⟨ho, hyo⟩, hh, ht, hik, hkp⟩ := hS
  refine g_aload_n 0 O dX6_count_0 rfl 0 rfl ?_
  refine g_iload_n 1 O dX6_count_1 rfl 1 rfl ?_
  refine g_callV 2 O (na := 1) (av := [.int p0]) (c_X6_howMany l E a mw msd mn mon mhn mrd mtn mad mpn se wo jf ow oj kf ff vf cf tf pb fat whl nw nwd njn rd so vl jg tko sdn hh_ ik kw kh kr kt kc ko p0 wn rn sn0 adn pn pc z y o hr tl ib iw ir ih it hS9) kl_X6_268 km_X6_howMany kv_X6_howMany ki_X6 kc_X6_howMany (by decide +kernel) rfl (Nat.le_of_ble_eq_true rfl) (Nat.le_of_ble_eq_true rfl) (fun _ h => h) 0 rfl rfl (fun s => s) (fun _ _ _ _ h => h) rfl (Nat.le_of_ble_eq_true rfl) dX6_count_2 (fun v9 s9 hv9 => ?_)
  obtain ⟨rfl, rfl⟩ := hv9
  exact g_iret 5 O dX6_count_5 (by rw [hP0]; exact ⟨_, rfl, rfl, hS9⟩)
