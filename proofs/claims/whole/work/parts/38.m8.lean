theorem KM_h {kw kh kr kt : Int32} {kc ko : Nat → Int32} {hr hr' : Hr} {iw : Nat} {ir : Int32} {ih : Hr} {it : Tl} (h : KM kw kh kr kt kc ko hr iw ir ih it) (hn : hr.1 ≤ hr'.1) (he : ∀ k, k < hr.1 → hr.2.1 k = hr'.2.1 k ∧ hr.2.2.1 k = hr'.2.2.1 k ∧ hr.2.2.2.1 k = hr'.2.2.2.1 k) : KM kw kh kr kt kc ko hr' iw ir ih it :=
  ⟨h.1, h.2.1, ⟨h.2.2.1.1, Nat.le_trans h.2.2.1.2.1 hn, fun k hk => by
    have h1 := h.2.2.1.2.2 k hk
    have h2 := he k (by have := h.2.2.1.2.1; omega)
    exact ⟨⟨h1.1.1.trans h2.1, h1.1.2.1.trans h2.2.1, h1.1.2.2.trans h2.2.2⟩, h1.2⟩⟩, h.2.2.2⟩
theorem HrW_add2 {a : Int32} {b c d e : Nat → Int32} {y : Hr} (hh : HrW (a, b, c, d, e) y) (h4 : y.1 < 4) {k f v : Int32} {kn fn vn : Nat} (hk : k = nI kn) (hk0 : kn ≤ 4) (hf : f = nI fn) (hf0 : fn < 6) (hv : v = nI vn) (hv0 : vn < 2) : HrW (nI (y.1 + 1), upd b y.1 k, upd c y.1 f, upd d y.1 v, upd e y.1 0) (y.1 + 1, (fun j => if j = y.1 then kn else y.2.1 j), (fun j => if j = y.1 then fn else y.2.2.1 j), (fun j => if j = y.1 then vn else y.2.2.2.1 j), upd y.2.2.2.2 y.1 0) := by
  refine ⟨rfl, h4, fun j hj => ?_⟩
  have hj : j < y.1 + 1 := hj
  show (upd b y.1 k j = nI (if j = y.1 then kn else y.2.1 j) ∧ (if j = y.1 then kn else y.2.1 j) ≤ 4) ∧ (upd c y.1 f j = nI (if j = y.1 then fn else y.2.2.1 j) ∧ (if j = y.1 then fn else y.2.2.1 j) < 6) ∧ (upd d y.1 v j = nI (if j = y.1 then vn else y.2.2.2.1 j) ∧ (if j = y.1 then vn else y.2.2.2.1 j) < 2) ∧ upd e y.1 0 j = upd y.2.2.2.2 y.1 0 j
  by_cases q : j = y.1
  · subst q
    simp only [upd_s, if_true]
    exact ⟨⟨hk, hk0⟩, ⟨hf, hf0⟩, ⟨hv, hv0⟩, trivial⟩
  · simp only [upd_n _ _ q, if_neg q]
    exact hh.2.2 j (by omega)

set_option maxRecDepth 100000 in
set_option maxHeartbeats 4000000 in
theorem c_X6_hearer (l : Launch) (E : Ev) (a : Nat → Nat) (mw msd mn mon mhn mrd mtn mad mpn : Int32) (se wo jf ow oj kf ff vf cf tf pb : Nat → Int32) (fat whl nw : Int32) (nwd njn : Nat → Int32) (rd : Int32) (so vl : Nat → Int64) (jg : Nat → Int32) (tko : Nat → Int32) (sdn hh_ : Int64) (ik kw kh kr kt : Int32) (kc ko : Nat → Int32) (p0 p1 p2 : Int32) (wn : Nat) (rn sn0 : Int32) (adn pn : Nat) (pc : Nat → Int32) (z : Nat → Nat) (y o : Sy) (hr : Hr) (tl : Tl) (ib : Bool) (iw : Nat) (ir : Int32) (ih : Hr) (it : Tl) (hS : RMc mw msd mn mon mhn mrd mtn mad mpn se wo jf ow oj kf ff vf cf tf pb ik kw kh kr kt kc ko wn rn sn0 adn pn pc z y o hr tl ib iw ir ih it) : Ctr l yX6_hearer cX6_hearer 4 (some .int) 2 42 E (wM E a) [.ref (a 0), .int p0, .int p1, .int p2] (((mw, msd, mn, mon, mhn, mrd, mtn, mad, mpn), (se, wo, jf, ow, oj, kf, ff, vf, cf, tf, pb), (fat, whl, nw, nwd, njn), (rd, so, vl, jg), tko, (sdn, hh_), (ik, kw, kh, kr, kt, kc, ko))) (pI (fun r x => r = A_hearer hr p0 p1 p2 ∧ RM x (NS_hearer ((wn, rn, sn0, adn), (pn, pc), z, y, o, hr, tl, ib, iw, ir, ih, it) p0 p1 p2))) := by
  refine Ctr.of' (by decide +kernel) (Nat.le_of_ble_eq_true rfl) (fun X P0 hP0 O => ?_)
  refine g_sub [0, 1, 2, 3] (lv' := [(0, .ref (a 0)), (1, .int p0), (2, .int p1), (3, .int p2)]) rfl ?_
  have hS9 := hS
  obtain ⟨⟨hwn, hwn0⟩, hrn, hsn, ⟨had, had0⟩, ⟨hpn, hpn0, hpb⟩, hz, ⟨hw, hy⟩, ⟨ho, hyo⟩, hh, ht, hik, hkp⟩ := hS
  refine g_iload_n 0 O dX6_hearer_0 rfl 2 rfl ?_
  refine g_callS 1 O (na := 1) (av := [.int p1]) (c_X6_isFact l E _ _ p1) kl_X6_168 ks_X6_isFact ki_X6 kc_X6_isFact (by decide +kernel) rfl (Nat.le_of_ble_eq_true rfl) (Nat.le_of_ble_eq_true rfl) (fun _ h => h) (fun s => s) (fun _ _ _ _ h => h) rfl (Nat.le_of_ble_eq_true rfl) dX6_hearer_1 (fun v9 s9 hv9 => ?_)
  obtain ⟨rfl, rfl⟩ := hv9
  refine g_if_ne 4 O 10 dX6_hearer_4 (by decide) (fun h4 => ?_) (fun h4 => ?_)
  · -- taken
    obtain ⟨fn, hf0, hf, hfc⟩ := rng_of (n := 6) (by decide) (ite_t h4)
    refine g_iload_n 10 O dX6_hearer_10 rfl 1 rfl ?_
    refine g_iconst 11 O (v := 0) dX6_hearer_11 (by decide) ?_
    refine g_iconst 12 O (v := 4) dX6_hearer_12 (by decide) ?_
    refine g_callS 13 O (na := 3) (av := [.int p0, .int 0, .int 4]) (c_X6_within l E _ _ p0 0 4) kl_X6_69 ks_X6_within ki_X6 kc_X6_within (by decide +kernel) rfl (Nat.le_of_ble_eq_true rfl) (Nat.le_of_ble_eq_true rfl) (fun _ h => h) (fun s => s) (fun _ _ _ _ h => h) rfl (Nat.le_of_ble_eq_true rfl) dX6_hearer_13 (fun v9 s9 hv9 => ?_)
    obtain ⟨rfl, rfl⟩ := hv9
    refine g_if_eq 16 O 28 dX6_hearer_16 (by decide) (fun h16 => ?_) (fun h16 => ?_)
    · -- taken
      refine g_bipush 28 O (v := (-102)) dX6_hearer_28 (by decide) ?_
      exact g_iret 30 O dX6_hearer_30 (by rw [hP0, A_hearer, if_pos (ite_t h4), if_neg (fun q => ite_f h16 q.1), NS_hearer, N_hearer, if_neg (fun q => (fun q => ite_f h16 q.1) q.2.1)]; exact ⟨_, rfl, rfl, hS9⟩)
    · -- not taken
      obtain ⟨kn, hk0, hk, hkc⟩ := rng_le (n := 4) (by decide) (ite_t h16)
      refine g_iload_n 19 O dX6_hearer_19 rfl 3 rfl ?_
      refine g_iconst 20 O (v := 0) dX6_hearer_20 (by decide) ?_
      refine g_iconst 21 O (v := 1) dX6_hearer_21 (by decide) ?_
      refine g_callS 22 O (na := 3) (av := [.int p2, .int 0, .int 1]) (c_X6_within l E _ _ p2 0 1) kl_X6_69 ks_X6_within ki_X6 kc_X6_within (by decide +kernel) rfl (Nat.le_of_ble_eq_true rfl) (Nat.le_of_ble_eq_true rfl) (fun _ h => h) (fun s => s) (fun _ _ _ _ h => h) rfl (Nat.le_of_ble_eq_true rfl) dX6_hearer_22 (fun v9 s9 hv9 => ?_)
      obtain ⟨rfl, rfl⟩ := hv9
      refine g_if_ne 25 O 31 dX6_hearer_25 (by decide) (fun h25 => ?_) (fun h25 => ?_)
      · -- taken
        have hv1 := ok1_iff.mp (ite_t h25)
        obtain ⟨vn, hv0, hv, hvc⟩ := val_of hv1
        refine g_aload_n 31 O dX6_hearer_31 rfl 0 rfl ?_
        refine g_get 32 O (v := .int mhn) inX6 0 rfl rfl 9 (by decide) kf_X6_175 rfl dX6_hearer_32 ?_
        refine g_si (nI hr.1) (hh.1) ?_
        refine g_iconst 35 O (v := 4) dX6_hearer_35 (by decide) ?_
        refine g_icmp_ne 36 O 42 dX6_hearer_36 (by decide) (fun h36 => ?_) (fun h36 => ?_)
        · -- taken
          have e4 : hr.1 < 4 := by have := hh.2.1; have : ¬ hr.1 = 4 := fun e => h36 (by rw [e]; rfl); omega
          refine g_aload_n 42 O dX6_hearer_42 rfl 0 rfl ?_
          refine g_get 43 O (v := .ref (a 6)) inX6 0 rfl rfl 10 (by decide) kf_X6_25 rfl dX6_hearer_43 ?_
          refine g_aload_n 46 O dX6_hearer_46 rfl 0 rfl ?_
          refine g_get 47 O (v := .int mhn) inX6 0 rfl rfl 9 (by decide) kf_X6_175 rfl dX6_hearer_47 ?_
          refine g_iload_n 50 O dX6_hearer_50 rfl 1 rfl ?_
          refine g_iast 51 O (((mw, msd, mn, mon, mhn, mrd, mtn, mad, mpn), (se, wo, jf, ow, oj, upd kf hr.1 p0, ff, vf, cf, tf, pb), (fat, whl, nw, nwd, njn), (rd, so, vl, jg), tko, (sdn, hh_), (ik, kw, kh, kr, kt, kc, ko))) 6 hr.1 rfl (hh.1) (by omega) (by decide) rfl dX6_hearer_51 ?_
          refine g_aload_n 52 O dX6_hearer_52 rfl 0 rfl ?_
          refine g_get 53 O (v := .ref (a 7)) inX6 0 rfl rfl 11 (by decide) kf_X6_28 rfl dX6_hearer_53 ?_
          refine g_aload_n 56 O dX6_hearer_56 rfl 0 rfl ?_
          refine g_get 57 O (v := .int mhn) inX6 0 rfl rfl 9 (by decide) kf_X6_175 rfl dX6_hearer_57 ?_
          refine g_iload_n 60 O dX6_hearer_60 rfl 2 rfl ?_
          refine g_iast 61 O (((mw, msd, mn, mon, mhn, mrd, mtn, mad, mpn), (se, wo, jf, ow, oj, upd kf hr.1 p0, upd ff hr.1 p1, vf, cf, tf, pb), (fat, whl, nw, nwd, njn), (rd, so, vl, jg), tko, (sdn, hh_), (ik, kw, kh, kr, kt, kc, ko))) 7 hr.1 rfl (hh.1) (by omega) (by decide) rfl dX6_hearer_61 ?_
          refine g_aload_n 62 O dX6_hearer_62 rfl 0 rfl ?_
          refine g_get 63 O (v := .ref (a 8)) inX6 0 rfl rfl 12 (by decide) kf_X6_31 rfl dX6_hearer_63 ?_
          refine g_aload_n 66 O dX6_hearer_66 rfl 0 rfl ?_
          refine g_get 67 O (v := .int mhn) inX6 0 rfl rfl 9 (by decide) kf_X6_175 rfl dX6_hearer_67 ?_
          refine g_iload_n 70 O dX6_hearer_70 rfl 3 rfl ?_
          refine g_iast 71 O (((mw, msd, mn, mon, mhn, mrd, mtn, mad, mpn), (se, wo, jf, ow, oj, upd kf hr.1 p0, upd ff hr.1 p1, upd vf hr.1 p2, cf, tf, pb), (fat, whl, nw, nwd, njn), (rd, so, vl, jg), tko, (sdn, hh_), (ik, kw, kh, kr, kt, kc, ko))) 8 hr.1 rfl (hh.1) (by omega) (by decide) rfl dX6_hearer_71 ?_
          refine g_aload_n 72 O dX6_hearer_72 rfl 0 rfl ?_
          refine g_get 73 O (v := .ref (a 9)) inX6 0 rfl rfl 13 (by decide) kf_X6_34 rfl dX6_hearer_73 ?_
          refine g_aload_n 76 O dX6_hearer_76 rfl 0 rfl ?_
          refine g_get 77 O (v := .int mhn) inX6 0 rfl rfl 9 (by decide) kf_X6_175 rfl dX6_hearer_77 ?_
          refine g_iconst 80 O (v := 0) dX6_hearer_80 (by decide) ?_
          refine g_iast 81 O (((mw, msd, mn, mon, mhn, mrd, mtn, mad, mpn), (se, wo, jf, ow, oj, upd kf hr.1 p0, upd ff hr.1 p1, upd vf hr.1 p2, upd cf hr.1 0, tf, pb), (fat, whl, nw, nwd, njn), (rd, so, vl, jg), tko, (sdn, hh_), (ik, kw, kh, kr, kt, kc, ko))) 9 hr.1 rfl (hh.1) (by omega) (by decide) rfl dX6_hearer_81 ?_
          refine g_aload_n 82 O dX6_hearer_82 rfl 0 rfl ?_
          refine g_dup 83 O dX6_hearer_83 rfl ?_
          refine g_get 84 O (v := .int mhn) inX6 0 rfl rfl 9 (by decide) kf_X6_175 rfl dX6_hearer_84 ?_
          refine g_iconst 87 O (v := 1) dX6_hearer_87 (by decide) ?_
          refine g_iadd 88 O dX6_hearer_88 ?_
          refine g_si (nI (hr.1 + 1)) (by rw [show mhn = nI hr.1 from hh.1]; exact nI_1 hr.1) ?_
          refine g_put 89 O inX6 tyX6_ok nmX6 (((mw, msd, mn, mon, nI (hr.1 + 1), mrd, mtn, mad, mpn), (se, wo, jf, ow, oj, upd kf hr.1 p0, upd ff hr.1 p1, upd vf hr.1 p2, upd cf hr.1 0, tf, pb), (fat, whl, nw, nwd, njn), (rd, so, vl, jg), tko, (sdn, hh_), (ik, kw, kh, kr, kt, kc, ko))) 0 rfl rfl 9 (by decide) kf_X6_175 rfl (rfl) (rfl) (Nat.le_of_ble_eq_true rfl) rfl dX6_hearer_89 ?_
          refine g_aload_n 92 O dX6_hearer_92 rfl 0 rfl ?_
          refine g_get 93 O (v := .int (nI (hr.1 + 1))) inX6 0 rfl rfl 9 (by decide) kf_X6_175 rfl dX6_hearer_93 ?_
          refine g_iconst 96 O (v := 1) dX6_hearer_96 (by decide) ?_
          refine g_isub 97 O dX6_hearer_97 ?_
          refine g_si (nI hr.1) ((pk_sub (a := hr.1 + 1) (b := 1) (by omega))) ?_
          exact g_iret 98 O dX6_hearer_98 (by rw [hP0, A_hearer, if_pos (ite_t h4), if_pos ⟨ite_t h16, hv1⟩, if_pos e4, NS_hearer, N_hearer, if_pos ⟨ite_t h4, ⟨ite_t h16, hv1⟩, e4⟩, hkc, hfc, hvc]; exact ⟨_, rfl, rfl, ⟨⟨hwn, hwn0⟩, hrn, hsn, ⟨had, had0⟩, ⟨hpn, hpn0, hpb⟩, hz, ⟨hw, hy⟩, ⟨ho, hyo⟩, HrW_add2 hh e4 hk hk0 hf hf0 hv hv0, ht, hik, fun q => KM_h (hkp q) (Nat.le_succ _) (fun j hj => ⟨(if_neg (Nat.ne_of_lt hj)).symm, (if_neg (Nat.ne_of_lt hj)).symm, (if_neg (Nat.ne_of_lt hj)).symm⟩)⟩⟩)
        · -- not taken
          have e4 : hr.1 = 4 := (nI_eq (b := 4) (by have := hh.2.1; omega) (by decide)).mp h36
          refine g_bipush 39 O (v := (-104)) dX6_hearer_39 (by decide) ?_
          exact g_iret 41 O dX6_hearer_41 (by rw [hP0, A_hearer, if_pos (ite_t h4), if_pos ⟨ite_t h16, hv1⟩, if_neg (by omega), NS_hearer, N_hearer, if_neg (fun q => by have : hr.1 < 4 := q.2.2; omega)]; exact ⟨_, rfl, rfl, hS9⟩)
      · -- not taken
        refine g_bipush 28 O (v := (-102)) dX6_hearer_28 (by decide) ?_
        exact g_iret 30 O dX6_hearer_30 (by rw [hP0, A_hearer, if_pos (ite_t h4), if_neg (fun q => ite_f h25 (ok1_iff.mpr q.2)), NS_hearer, N_hearer, if_neg (fun q => (fun q => ite_f h25 (ok1_iff.mpr q.2)) q.2.1)]; exact ⟨_, rfl, rfl, hS9⟩)
  · -- not taken
    refine g_bipush 7 O (v := (-101)) dX6_hearer_7 (by decide) ?_
    exact g_iret 9 O dX6_hearer_9 (by rw [hP0, A_hearer, if_neg (ite_f h4), NS_hearer, N_hearer, if_neg (fun q => ite_f h4 q.1)]; exact ⟨_, rfl, rfl, hS9⟩)

set_option maxRecDepth 100000 in
set_option maxHeartbeats 4000000 in
theorem c_X6_about (l : Launch) (E : Ev) (a : Nat → Nat) (mw msd mn mon mhn mrd mtn mad mpn : Int32) (se wo jf ow oj kf ff vf cf tf pb : Nat → Int32) (fat whl nw : Int32) (nwd njn : Nat → Int32) (rd : Int32) (so vl : Nat → Int64) (jg : Nat → Int32) (tko : Nat → Int32) (sdn hh_ : Int64) (ik kw kh kr kt : Int32) (kc ko : Nat → Int32) (p0 p1 : Int32) (wn : Nat) (rn sn0 : Int32) (adn pn : Nat) (pc : Nat → Int32) (z : Nat → Nat) (y o : Sy) (hr : Hr) (tl : Tl) (ib : Bool) (iw : Nat) (ir : Int32) (ih : Hr) (it : Tl) (hS : RMc mw msd mn mon mhn mrd mtn mad mpn se wo jf ow oj kf ff vf cf tf pb ik kw kh kr kt kc ko wn rn sn0 adn pn pc z y o hr tl ib iw ir ih it) : Ctr l yX6_about cX6_about 3 (some .int) 4 115 E (wM E a) [.ref (a 0), .int p0, .int p1] (((mw, msd, mn, mon, mhn, mrd, mtn, mad, mpn), (se, wo, jf, ow, oj, kf, ff, vf, cf, tf, pb), (fat, whl, nw, nwd, njn), (rd, so, vl, jg), tko, (sdn, hh_), (ik, kw, kh, kr, kt, kc, ko))) (pI (fun r x => r = A_about z y hr wn p0 p1 ∧ RM x (((wn, rn, sn0, adn), (pn, pc), z, y, o, hr, tl, ib, iw, ir, ih, it)))) := by
  refine Ctr.of' (by decide +kernel) (Nat.le_of_ble_eq_true rfl) (fun X P0 hP0 O => ?_)
  refine g_sub [0, 1, 2] (lv' := [(0, .ref (a 0)), (1, .int p0), (2, .int p1)]) rfl ?_
  have hS9 := hS
  obtain ⟨⟨hwn, hwn0⟩, hrn, hsn, ⟨had, had0⟩, ⟨hpn, hpn0, hpb⟩, hz, ⟨hw, hy⟩, ⟨ho, hyo⟩, hh, ht, hik, hkp⟩ := hS
  refine g_aload_n 0 O dX6_about_0 rfl 0 rfl ?_
  refine g_iload_n 1 O dX6_about_1 rfl 1 rfl ?_
  refine g_callV 2 O (na := 1) (av := [.int p0]) (c_X6_isHearer l E a mw msd mn mon mhn mrd mtn mad mpn se wo jf ow oj kf ff vf cf tf pb fat whl nw nwd njn rd so vl jg tko sdn hh_ ik kw kh kr kt kc ko p0 hr hh) kl_X6_184 km_X6_isHearer kv_X6_isHearer ki_X6 kc_X6_isHearer (by decide +kernel) rfl (Nat.le_of_ble_eq_true rfl) (Nat.le_of_ble_eq_true rfl) (fun _ h => h) 0 rfl rfl (fun s => s) (fun _ _ _ _ h => h) rfl (Nat.le_of_ble_eq_true rfl) dX6_about_2 (fun v9 s9 hv9 => ?_)
  obtain ⟨rfl, rfl⟩ := hv9
  refine g_if_ne 5 O 11 dX6_about_5 (by decide) (fun h5 => ?_) (fun h5 => ?_)
  · -- taken
    have hh4 := hh.2.1
    obtain ⟨p, hp0, hp, hpc⟩ := rng_of (by omega) (ite_t h5)
    refine g_aload_n 11 O dX6_about_11 rfl 0 rfl ?_
    refine g_aload_n 12 O dX6_about_12 rfl 0 rfl ?_
    refine g_get 13 O (v := .int mn) inX6 0 rfl rfl 3 (by decide) kf_X6_97 rfl dX6_about_13 ?_
    refine g_iconst 16 O (v := 0) dX6_about_16 (by decide) ?_
    refine g_callV 17 O (na := 2) (av := [.int mn, .int 0]) (c_X6_lay l E a mw msd mn mon mhn mrd mtn mad mpn se wo jf ow oj kf ff vf cf tf pb fat whl nw nwd njn rd so vl jg tko sdn hh_ ik kw kh kr kt kc ko mn 0 y z y.1 hw rfl (YM0 hy) hz) kl_X6_106 km_X6_lay kv_X6_lay ki_X6 kc_X6_lay (by decide +kernel) rfl (Nat.le_of_ble_eq_true rfl) (Nat.le_of_ble_eq_true rfl) (fun _ h => h) 0 rfl rfl (fun s => s) (fun _ _ _ _ h => h) rfl (Nat.le_of_ble_eq_true rfl) dX6_about_17 (fun v9 s9 hv9 => ?_)
    obtain ⟨rfl, so', vl', jg', rfl, hso⟩ := hv9
    refine g_iload_n 20 O dX6_about_20 rfl 2 rfl ?_
    refine g_iconst 21 O (v := 0) dX6_about_21 (by decide) ?_
    refine g_iconst 22 O (v := 5) dX6_about_22 (by decide) ?_
    refine g_callS 23 O (na := 3) (av := [.int p1, .int 0, .int 5]) (c_X6_within l E _ _ p1 0 5) kl_X6_69 ks_X6_within ki_X6 kc_X6_within (by decide +kernel) rfl (Nat.le_of_ble_eq_true rfl) (Nat.le_of_ble_eq_true rfl) (fun _ h => h) (fun s => s) (fun _ _ _ _ h => h) rfl (Nat.le_of_ble_eq_true rfl) dX6_about_23 (fun v9 s9 hv9 => ?_)
    obtain ⟨rfl, rfl⟩ := hv9
    refine g_if_eq 26 O 38 dX6_about_26 (by decide) (fun h26 => ?_) (fun h26 => ?_)
    · -- taken
      refine g_bipush 38 O (v := (-102)) dX6_about_38 (by decide) ?_
      exact g_iret 40 O dX6_about_40 (by rw [hP0, A_about, if_pos (ite_t h5), if_neg (ite_f h26)]; exact ⟨_, rfl, rfl, hS9⟩)
    · -- not taken
      refine g_aload_n 29 O dX6_about_29 rfl 0 rfl ?_
      refine g_iload_n 30 O dX6_about_30 rfl 1 rfl ?_
      refine g_iload_n 31 O dX6_about_31 rfl 2 rfl ?_
      refine g_callV 32 O (na := 2) (av := [.int p0, .int p1]) (c_X6_hearerNow l E a mw msd mn mon mhn mrd mtn mad mpn se wo jf ow oj kf ff vf cf tf pb fat whl nw nwd njn (nI (NR y)) so' vl' jg' tko sdn hh_ ik kw kh kr kt kc ko p0 p1 y z hy.1 rfl hso hr hh p hp hp0 wn hwn hwn0) kl_X6_187 km_X6_hearerNow kv_X6_hearerNow ki_X6 kc_X6_hearerNow (by decide +kernel) rfl (Nat.le_of_ble_eq_true rfl) (Nat.le_of_ble_eq_true rfl) (fun _ h => h) 0 rfl rfl (fun s => s) (fun _ _ _ _ h => h) rfl (Nat.le_of_ble_eq_true rfl) dX6_about_32 (fun v9 s9 hv9 => ?_)
      obtain ⟨rfl, rfl⟩ := hv9
      refine g_goto 35 O 40 dX6_about_35 (by decide) ?_
      exact g_iret 40 O dX6_about_40 (by rw [hP0, A_about, if_pos (ite_t h5), if_pos (ite_t h26), hpc]; exact ⟨_, rfl, rfl, hS9⟩)
  · -- not taken
    refine g_bipush 8 O (v := (-101)) dX6_about_8 (by decide) ?_
    exact g_iret 10 O dX6_about_10 (by rw [hP0, A_about, if_neg (ite_f h5)]; exact ⟨_, rfl, rfl, hS9⟩)

set_option maxRecDepth 100000 in
set_option maxHeartbeats 4000000 in
theorem c_X6_as (l : Launch) (E : Ev) (a : Nat → Nat) (mw msd mn mon mhn mrd mtn mad mpn : Int32) (se wo jf ow oj kf ff vf cf tf pb : Nat → Int32) (fat whl nw : Int32) (nwd njn : Nat → Int32) (rd : Int32) (so vl : Nat → Int64) (jg : Nat → Int32) (tko : Nat → Int32) (sdn hh_ : Int64) (ik kw kh kr kt : Int32) (kc ko : Nat → Int32) (p0 p1 : Int32) (wn : Nat) (rn sn0 : Int32) (adn pn : Nat) (pc : Nat → Int32) (z : Nat → Nat) (y o : Sy) (hr : Hr) (tl : Tl) (ib : Bool) (iw : Nat) (ir : Int32) (ih : Hr) (it : Tl) (hS : RMc mw msd mn mon mhn mrd mtn mad mpn se wo jf ow oj kf ff vf cf tf pb ik kw kh kr kt kc ko wn rn sn0 adn pn pc z y o hr tl ib iw ir ih it) : Ctr l yX6_as cX6_as 4 (some .int) 2 43 E (wM E a) [.ref (a 0), .int p0, .int p1] (((mw, msd, mn, mon, mhn, mrd, mtn, mad, mpn), (se, wo, jf, ow, oj, kf, ff, vf, cf, tf, pb), (fat, whl, nw, nwd, njn), (rd, so, vl, jg), tko, (sdn, hh_), (ik, kw, kh, kr, kt, kc, ko))) (pI (fun r x => r = A_as hr p0 p1 ∧ RM x (((wn, rn, sn0, adn), (pn, pc), z, y, o, hr, tl, ib, iw, ir, ih, it)))) := by
  refine Ctr.of' (by decide +kernel) (Nat.le_of_ble_eq_true rfl) (fun X P0 hP0 O => ?_)
  refine g_sub [0, 1, 2] (lv' := [(0, .ref (a 0)), (1, .int p0), (2, .int p1)]) rfl ?_
  have hS9 := hS
  obtain ⟨⟨hwn, hwn0⟩, hrn, hsn, ⟨had, had0⟩, ⟨hpn, hpn0, hpb⟩, hz, ⟨hw, hy⟩, ⟨ho, hyo⟩, hh, ht, hik, hkp⟩ := hS
  refine g_aload_n 0 O dX6_as_0 rfl 0 rfl ?_
  refine g_iload_n 1 O dX6_as_1 rfl 1 rfl ?_
  refine g_callV 2 O (na := 1) (av := [.int p0]) (c_X6_isHearer l E a mw msd mn mon mhn mrd mtn mad mpn se wo jf ow oj kf ff vf cf tf pb fat whl nw nwd njn rd so vl jg tko sdn hh_ ik kw kh kr kt kc ko p0 hr hh) kl_X6_184 km_X6_isHearer kv_X6_isHearer ki_X6 kc_X6_isHearer (by decide +kernel) rfl (Nat.le_of_ble_eq_true rfl) (Nat.le_of_ble_eq_true rfl) (fun _ h => h) 0 rfl rfl (fun s => s) (fun _ _ _ _ h => h) rfl (Nat.le_of_ble_eq_true rfl) dX6_as_2 (fun v9 s9 hv9 => ?_)
  obtain ⟨rfl, rfl⟩ := hv9
  refine g_if_ne 5 O 11 dX6_as_5 (by decide) (fun h5 => ?_) (fun h5 => ?_)
  · -- taken
    have hh4 := hh.2.1
    obtain ⟨p, hp0, hp, hpc⟩ := rng_of (by omega) (ite_t h5)
    refine g_iload_n 11 O dX6_as_11 rfl 2 rfl ?_
    refine g_iconst 12 O (v := 0) dX6_as_12 (by decide) ?_
    refine g_iconst 13 O (v := 4) dX6_as_13 (by decide) ?_
    refine g_callS 14 O (na := 3) (av := [.int p1, .int 0, .int 4]) (c_X6_within l E _ _ p1 0 4) kl_X6_69 ks_X6_within ki_X6 kc_X6_within (by decide +kernel) rfl (Nat.le_of_ble_eq_true rfl) (Nat.le_of_ble_eq_true rfl) (fun _ h => h) (fun s => s) (fun _ _ _ _ h => h) rfl (Nat.le_of_ble_eq_true rfl) dX6_as_14 (fun v9 s9 hv9 => ?_)
    obtain ⟨rfl, rfl⟩ := hv9
    refine g_if_ne 17 O 23 dX6_as_17 (by decide) (fun h17 => ?_) (fun h17 => ?_)
    · -- taken
      refine g_aload_n 23 O dX6_as_23 rfl 0 rfl ?_
      refine g_get 24 O (v := .ref (a 6)) inX6 0 rfl rfl 10 (by decide) kf_X6_25 rfl dX6_as_24 ?_
      refine g_iload_n 27 O dX6_as_27 rfl 1 rfl ?_
      refine g_iald 28 O 6 p rfl (hp) (by omega) (by decide) dX6_as_28 ?_
      refine g_si (nI (hr.2.1 p)) ((hh.2.2 p hp0).1.1) ?_
      refine g_istore_n 29 O (lv' := [(3, .int (nI (hr.2.1 p))), (0, .ref (a 0)), (1, .int p0), (2, .int p1)]) dX6_as_29 rfl (by decide) rfl ?_
      refine g_iload_n 30 O dX6_as_30 rfl 3 rfl ?_
      refine g_if_eq 31 O 49 dX6_as_31 (by decide) (fun h31 => ?_) (fun h31 => ?_)
      · -- taken
        refine g_iload_n 49 O dX6_as_49 rfl 2 rfl ?_
        refine g_goto 50 O 54 dX6_as_50 (by decide) ?_
        exact g_iret 54 O dX6_as_54 (by rw [hP0, A_as, if_pos (ite_t h5), if_pos (ite_t h17), hpc, if_pos (Or.inl h31)]; exact ⟨_, rfl, rfl, hS9⟩)
      · -- not taken
        refine g_iload_n 34 O dX6_as_34 rfl 0 rfl ?_
        refine g_iload_n 35 O dX6_as_35 rfl 3 rfl ?_
        refine g_icmp_eq 36 O 49 dX6_as_36 (by decide) (fun h36 => ?_) (fun h36 => ?_)
        · -- taken
          refine g_iload_n 49 O dX6_as_49 rfl 2 rfl ?_
          refine g_goto 50 O 54 dX6_as_50 (by decide) ?_
          exact g_iret 54 O dX6_as_54 (by rw [hP0, A_as, if_pos (ite_t h5), if_pos (ite_t h17), hpc, if_pos (Or.inr (Or.inl h36.symm))]; exact ⟨_, rfl, rfl, hS9⟩)
        · -- not taken
          refine g_iload_n 39 O dX6_as_39 rfl 3 rfl ?_
          refine g_iconst 40 O (v := 3) dX6_as_40 (by decide) ?_
          refine g_icmp_ne 41 O 53 dX6_as_41 (by decide) (fun h41 => ?_) (fun h41 => ?_)
          · -- taken
            refine g_iconst 53 O (v := (-1)) dX6_as_53 (by decide) ?_
            exact g_iret 54 O dX6_as_54 (by rw [hP0, A_as, if_pos (ite_t h5), if_pos (ite_t h17), hpc, if_neg (fun q => q.elim h31 (fun q => q.elim (fun e => h36 e.symm) (fun q => h41 q.1)))]; exact ⟨_, rfl, rfl, hS9⟩)
          · -- not taken
            refine g_iload_n 44 O dX6_as_44 rfl 0 rfl ?_
            refine g_iconst 45 O (v := 4) dX6_as_45 (by decide) ?_
            refine g_icmp_ne 46 O 53 dX6_as_46 (by decide) (fun h46 => ?_) (fun h46 => ?_)
            · -- taken
              refine g_iconst 53 O (v := (-1)) dX6_as_53 (by decide) ?_
              exact g_iret 54 O dX6_as_54 (by rw [hP0, A_as, if_pos (ite_t h5), if_pos (ite_t h17), hpc, if_neg (fun q => q.elim h31 (fun q => q.elim (fun e => h36 e.symm) (fun q => h46 q.2)))]; exact ⟨_, rfl, rfl, hS9⟩)
            · -- not taken
              refine g_iload_n 49 O dX6_as_49 rfl 2 rfl ?_
              refine g_goto 50 O 54 dX6_as_50 (by decide) ?_
              exact g_iret 54 O dX6_as_54 (by rw [hP0, A_as, if_pos (ite_t h5), if_pos (ite_t h17), hpc, if_pos (Or.inr (Or.inr ⟨h41, h46⟩))]; exact ⟨_, rfl, rfl, hS9⟩)
    · -- not taken
      refine g_bipush 20 O (v := (-102)) dX6_as_20 (by decide) ?_
      exact g_iret 22 O dX6_as_22 (by rw [hP0, A_as, if_pos (ite_t h5), if_neg (ite_f h17)]; exact ⟨_, rfl, rfl, hS9⟩)
  · -- not taken
    refine g_bipush 8 O (v := (-101)) dX6_as_8 (by decide) ?_
    exact g_iret 10 O dX6_as_10 (by rw [hP0, A_as, if_neg (ite_f h5)]; exact ⟨_, rfl, rfl, hS9⟩)

set_option maxRecDepth 100000 in
set_option maxHeartbeats 4000000 in
theorem c_X6_act (l : Launch) (E : Ev) (a : Nat → Nat) (mw msd mn mon mhn mrd mtn mad mpn : Int32) (se wo jf ow oj kf ff vf cf tf pb : Nat → Int32) (fat whl nw : Int32) (nwd njn : Nat → Int32) (rd : Int32) (so vl : Nat → Int64) (jg : Nat → Int32) (tko : Nat → Int32) (sdn hh_ : Int64) (ik kw kh kr kt : Int32) (kc ko : Nat → Int32) (p0 : Int32) (wn : Nat) (rn sn0 : Int32) (adn pn : Nat) (pc : Nat → Int32) (z : Nat → Nat) (y o : Sy) (hr : Hr) (tl : Tl) (ib : Bool) (iw : Nat) (ir : Int32) (ih : Hr) (it : Tl) (hS : RMc mw msd mn mon mhn mrd mtn mad mpn se wo jf ow oj kf ff vf cf tf pb ik kw kh kr kt kc ko wn rn sn0 adn pn pc z y o hr tl ib iw ir ih it) : Ctr l yX6_act cX6_act 2 (some .int) 4 115 E (wM E a) [.ref (a 0), .int p0] (((mw, msd, mn, mon, mhn, mrd, mtn, mad, mpn), (se, wo, jf, ow, oj, kf, ff, vf, cf, tf, pb), (fat, whl, nw, nwd, njn), (rd, so, vl, jg), tko, (sdn, hh_), (ik, kw, kh, kr, kt, kc, ko))) (pI (fun r x => r = A_act z y hr wn p0 ∧ RM x (NS_act ((wn, rn, sn0, adn), (pn, pc), z, y, o, hr, tl, ib, iw, ir, ih, it) p0))) := by
  refine Ctr.of' (by decide +kernel) (Nat.le_of_ble_eq_true rfl) (fun X P0 hP0 O => ?_)
  refine g_sub [0, 1] (lv' := [(0, .ref (a 0)), (1, .int p0)]) rfl ?_
  have hS9 := hS
  obtain ⟨⟨hwn, hwn0⟩, hrn, hsn, ⟨had, had0⟩, ⟨hpn, hpn0, hpb⟩, hz, ⟨hw, hy⟩, ⟨ho, hyo⟩, hh, ht, hik, hkp⟩ := hS
  refine g_aload_n 0 O dX6_act_0 rfl 0 rfl ?_
  refine g_iload_n 1 O dX6_act_1 rfl 1 rfl ?_
  refine g_callV 2 O (na := 1) (av := [.int p0]) (c_X6_isHearer l E a mw msd mn mon mhn mrd mtn mad mpn se wo jf ow oj kf ff vf cf tf pb fat whl nw nwd njn rd so vl jg tko sdn hh_ ik kw kh kr kt kc ko p0 hr hh) kl_X6_184 km_X6_isHearer kv_X6_isHearer ki_X6 kc_X6_isHearer (by decide +kernel) rfl (Nat.le_of_ble_eq_true rfl) (Nat.le_of_ble_eq_true rfl) (fun _ h => h) 0 rfl rfl (fun s => s) (fun _ _ _ _ h => h) rfl (Nat.le_of_ble_eq_true rfl) dX6_act_2 (fun v9 s9 hv9 => ?_)
  obtain ⟨rfl, rfl⟩ := hv9
  refine g_if_ne 5 O 11 dX6_act_5 (by decide) (fun h5 => ?_) (fun h5 => ?_)
  · -- taken
    have hh4 := hh.2.1
    obtain ⟨p, hp0, hp, hpc⟩ := rng_of (by omega) (ite_t h5)
    refine g_aload_n 11 O dX6_act_11 rfl 0 rfl ?_
    refine g_get 12 O (v := .int mn) inX6 0 rfl rfl 3 (by decide) kf_X6_97 rfl dX6_act_12 ?_
    refine g_if_ne 15 O 21 dX6_act_15 (by decide) (fun h15 => ?_) (fun h15 => ?_)
    · -- taken
      have y0 : ¬ y.1 = 0 := n0 (hw ▸ h15)
      refine g_aload_n 21 O dX6_act_21 rfl 0 rfl ?_
      refine g_aload_n 22 O dX6_act_22 rfl 0 rfl ?_
      refine g_get 23 O (v := .int mn) inX6 0 rfl rfl 3 (by decide) kf_X6_97 rfl dX6_act_23 ?_
      refine g_iconst 26 O (v := 0) dX6_act_26 (by decide) ?_
      refine g_callV 27 O (na := 2) (av := [.int mn, .int 0]) (c_X6_lay l E a mw msd mn mon mhn mrd mtn mad mpn se wo jf ow oj kf ff vf cf tf pb fat whl nw nwd njn rd so vl jg tko sdn hh_ ik kw kh kr kt kc ko mn 0 y z y.1 hw rfl (YM0 hy) hz) kl_X6_106 km_X6_lay kv_X6_lay ki_X6 kc_X6_lay (by decide +kernel) rfl (Nat.le_of_ble_eq_true rfl) (Nat.le_of_ble_eq_true rfl) (fun _ h => h) 0 rfl rfl (fun s => s) (fun _ _ _ _ h => h) rfl (Nat.le_of_ble_eq_true rfl) dX6_act_27 (fun v9 s9 hv9 => ?_)
      obtain ⟨rfl, so', vl', jg', rfl, hso⟩ := hv9
      refine g_aload_n 30 O dX6_act_30 rfl 0 rfl ?_
      refine g_iload_n 31 O dX6_act_31 rfl 1 rfl ?_
      refine g_callV 32 O (na := 1) (av := [.int p0]) (c_X6_doAct l E a mw msd mn mon mhn mrd mtn mad mpn se wo jf ow oj kf ff vf cf tf pb fat whl nw nwd njn (nI (NR y)) so' vl' jg' tko sdn hh_ ik kw kh kr kt kc ko p0 y z hy.1 rfl hso hr hh y0 p hp hp0 wn hwn hwn0) kl_X6_193 km_X6_doAct kv_X6_doAct ki_X6 kc_X6_doAct (by decide +kernel) rfl (Nat.le_of_ble_eq_true rfl) (Nat.le_of_ble_eq_true rfl) (fun _ h => h) 0 rfl rfl (fun s => s) (fun _ _ _ _ h => h) rfl (Nat.le_of_ble_eq_true rfl) dX6_act_32 (fun v9 s9 hv9 => ?_)
      obtain ⟨rfl, cf', rfl, hh'⟩ := hv9
      refine g_aload_n 35 O dX6_act_35 rfl 0 rfl ?_
      refine g_get 36 O (v := .int (nI (aw z y hr p wn))) inX6 0 rfl rfl 0 (by decide) kf_X6_162 rfl dX6_act_36 ?_
      exact g_iret 39 O dX6_act_39 (by rw [hP0, A_act, if_pos (ite_t h5), if_neg y0, hpc, NS_act, N_actW, N_actH, if_pos ⟨ite_t h5, y0⟩, if_pos ⟨ite_t h5, y0⟩, hpc]; exact ⟨_, rfl, rfl, ⟨⟨rfl, bh_lt hh hp0 _ hwn0⟩, hrn, hsn, ⟨had, had0⟩, ⟨hpn, hpn0, hpb⟩, hz, ⟨hw, hy⟩, ⟨ho, hyo⟩, hh', ht, hik, fun q => KM_h (hkp q) (Nat.le_refl _) (fun j hj => ⟨rfl, rfl, rfl⟩)⟩⟩)
    · -- not taken
      have y0 : y.1 = 0 := m0 (by have := hy.1; omega) (hw ▸ h15)
      refine g_bipush 18 O (v := (-103)) dX6_act_18 (by decide) ?_
      exact g_iret 20 O dX6_act_20 (by rw [hP0, A_act, if_pos (ite_t h5), if_pos y0, NS_act, N_actW, N_actH, if_neg (fun q => q.2 y0), if_neg (fun q => q.2 y0)]; exact ⟨_, rfl, rfl, hS9⟩)
  · -- not taken
    refine g_bipush 8 O (v := (-101)) dX6_act_8 (by decide) ?_
    exact g_iret 10 O dX6_act_10 (by rw [hP0, A_act, if_neg (ite_f h5), NS_act, N_actW, N_actH, if_neg (fun q => ite_f h5 q.1), if_neg (fun q => ite_f h5 q.1)]; exact ⟨_, rfl, rfl, hS9⟩)

set_option maxRecDepth 100000 in
set_option maxHeartbeats 4000000 in
theorem c_X6_round (l : Launch) (E : Ev) (a : Nat → Nat) (mw msd mn mon mhn mrd mtn mad mpn : Int32) (se wo jf ow oj kf ff vf cf tf pb : Nat → Int32) (fat whl nw : Int32) (nwd njn : Nat → Int32) (rd : Int32) (so vl : Nat → Int64) (jg : Nat → Int32) (tko : Nat → Int32) (sdn hh_ : Int64) (ik kw kh kr kt : Int32) (kc ko : Nat → Int32) (wn : Nat) (rn sn0 : Int32) (adn pn : Nat) (pc : Nat → Int32) (z : Nat → Nat) (y o : Sy) (hr : Hr) (tl : Tl) (ib : Bool) (iw : Nat) (ir : Int32) (ih : Hr) (it : Tl) (hS : RMc mw msd mn mon mhn mrd mtn mad mpn se wo jf ow oj kf ff vf cf tf pb ik kw kh kr kt kc ko wn rn sn0 adn pn pc z y o hr tl ib iw ir ih it) : Ctr l yX6_round cX6_round 2 (some .int) 4 115 E (wM E a) [.ref (a 0)] (((mw, msd, mn, mon, mhn, mrd, mtn, mad, mpn), (se, wo, jf, ow, oj, kf, ff, vf, cf, tf, pb), (fat, whl, nw, nwd, njn), (rd, so, vl, jg), tko, (sdn, hh_), (ik, kw, kh, kr, kt, kc, ko))) (pI (fun r x => r = A_round z y hr wn ∧ RM x (NS_round ((wn, rn, sn0, adn), (pn, pc), z, y, o, hr, tl, ib, iw, ir, ih, it)))) := by
  refine Ctr.of' (by decide +kernel) (Nat.le_of_ble_eq_true rfl) (fun X P0 hP0 O => ?_)
  refine g_sub [0] (lv' := [(0, .ref (a 0))]) rfl ?_
  have hS9 := hS
  obtain ⟨⟨hwn, hwn0⟩, hrn, hsn, ⟨had, had0⟩, ⟨hpn, hpn0, hpb⟩, hz, ⟨hw, hy⟩, ⟨ho, hyo⟩, hh, ht, hik, hkp⟩ := hS
  refine g_aload_n 0 O dX6_round_0 rfl 0 rfl ?_
  refine g_get 1 O (v := .int mn) inX6 0 rfl rfl 3 (by decide) kf_X6_97 rfl dX6_round_1 ?_
  refine g_if_ne 4 O 10 dX6_round_4 (by decide) (fun h4 => ?_) (fun h4 => ?_)
  · -- taken
    have y0 : ¬ y.1 = 0 := n0 (hw ▸ h4)
    refine g_aload_n 10 O dX6_round_10 rfl 0 rfl ?_
    refine g_aload_n 11 O dX6_round_11 rfl 0 rfl ?_
    refine g_get 12 O (v := .int mn) inX6 0 rfl rfl 3 (by decide) kf_X6_97 rfl dX6_round_12 ?_
    refine g_iconst 15 O (v := 0) dX6_round_15 (by decide) ?_
    refine g_callV 16 O (na := 2) (av := [.int mn, .int 0]) (c_X6_lay l E a mw msd mn mon mhn mrd mtn mad mpn se wo jf ow oj kf ff vf cf tf pb fat whl nw nwd njn rd so vl jg tko sdn hh_ ik kw kh kr kt kc ko mn 0 y z y.1 hw rfl (YM0 hy) hz) kl_X6_106 km_X6_lay kv_X6_lay ki_X6 kc_X6_lay (by decide +kernel) rfl (Nat.le_of_ble_eq_true rfl) (Nat.le_of_ble_eq_true rfl) (fun _ h => h) 0 rfl rfl (fun s => s) (fun _ _ _ _ h => h) rfl (Nat.le_of_ble_eq_true rfl) dX6_round_16 (fun v9 s9 hv9 => ?_)
    obtain ⟨rfl, so', vl', jg', rfl, hso⟩ := hv9
    have hh4 := hh.2.1
    rw [hwn]
    refine g_iconst 19 O (v := 0) dX6_round_19 (by decide) ?_
    refine g_istore_n 20 O (lv' := [(1, .int 0), (0, .ref (a 0))]) dX6_round_20 rfl (by decide) rfl ?_
    refine g_sub [0, 1] (lv' := [(1, .int 0), (0, .ref (a 0))]) rfl ?_
    have L21 : ∀ (fuel : Nat) (k : Nat) (cf' : Nat → Int32) (hk : k ≤ hr.1) (hw64 : (rw2 z y hr wn k).1 < 64) (hhk : HrW (mhn, kf, ff, vf, cf') (hr.1, hr.2.1, hr.2.2.1, hr.2.2.2.1, (rw2 z y hr wn k).2)), hr.1 - k < fuel → G l E (wM E a) P0 X 2 (((nI (rw2 z y hr wn k).1, msd, mn, mon, mhn, mrd, mtn, mad, mpn), (se, wo, jf, ow, oj, kf, ff, vf, cf', tf, pb), (fat, whl, nw, nwd, njn), (nI (NR y), so', vl', jg'), tko, (sdn, hh_), (ik, kw, kh, kr, kt, kc, ko))) 21 [(1, .int (nI k)), (0, .ref (a 0))] [] := by
      intro fuel
      induction fuel with
      | zero => intro k cf' hk hw64 hhk hfu; exact absurd hfu (Nat.not_lt_zero _)
      | succ fuel ih21 =>
        intro k cf' hk hw64 hhk hfu
        refine g_iload_n 21 O dX6_round_21 rfl 0 rfl ?_
        refine g_aload_n 22 O dX6_round_22 rfl 1 rfl ?_
        refine g_get 23 O (v := .int mhn) inX6 0 rfl rfl 9 (by decide) kf_X6_175 rfl dX6_round_23 ?_
        refine g_si (nI hr.1) (hh.1) ?_
        refine g_icmp_ge 26 O 40 dX6_round_26 (by decide) (fun h26 => ?_) (fun h26 => ?_)
        · -- taken
          have e : k = hr.1 := by have := ge_of_le (by omega) (by omega) h26; omega
          refine g_aload_n 40 O dX6_round_40 rfl 1 rfl ?_
          refine g_dup 41 O dX6_round_41 rfl ?_
          refine g_get 42 O (v := .int mrd) inX6 0 rfl rfl 14 (by decide) kf_X6_197 rfl dX6_round_42 ?_
          refine g_iconst 45 O (v := 1) dX6_round_45 (by decide) ?_
          refine g_iadd 46 O dX6_round_46 ?_
          refine g_put 47 O inX6 tyX6_ok nmX6 (((nI (rw2 z y hr wn k).1, msd, mn, mon, mhn, mrd + 1, mtn, mad, mpn), (se, wo, jf, ow, oj, kf, ff, vf, cf', tf, pb), (fat, whl, nw, nwd, njn), (nI (NR y), so', vl', jg'), tko, (sdn, hh_), (ik, kw, kh, kr, kt, kc, ko))) 0 rfl rfl 14 (by decide) kf_X6_197 rfl (rfl) (rfl) (Nat.le_of_ble_eq_true rfl) rfl dX6_round_47 ?_
          refine g_aload_n 50 O dX6_round_50 rfl 1 rfl ?_
          refine g_get 51 O (v := .int (nI (rw2 z y hr wn k).1)) inX6 0 rfl rfl 0 (by decide) kf_X6_162 rfl dX6_round_51 ?_
          exact g_iret 54 O dX6_round_54 (by subst e; rw [hP0, A_round, if_neg y0, NS_round, N_roundW, N_roundH, N_roundR, if_neg y0, if_neg y0, if_neg y0]; exact ⟨_, rfl, rfl, ⟨⟨rfl, hw64⟩, by rw [hrn], hsn, ⟨had, had0⟩, ⟨hpn, hpn0, hpb⟩, hz, ⟨hw, hy⟩, ⟨ho, hyo⟩, hhk, ht, hik, fun q => KM_h (hkp q) (Nat.le_refl _) (fun j hj => ⟨rfl, rfl, rfl⟩)⟩⟩)
        · -- not taken
          have hlt : k < hr.1 := lt_of_nge (by omega) h26
          refine g_aload_n 29 O dX6_round_29 rfl 1 rfl ?_
          refine g_iload_n 30 O dX6_round_30 rfl 0 rfl ?_
          refine g_callV 31 O (na := 1) (av := [.int (nI k)]) (c_X6_doAct l E a (nI (rw2 z y hr wn k).1) msd mn mon mhn mrd mtn mad mpn se wo jf ow oj kf ff vf cf' tf pb fat whl nw nwd njn (nI (NR y)) so' vl' jg' tko sdn hh_ ik kw kh kr kt kc ko (nI k) y z hy.1 rfl hso (hr.1, hr.2.1, hr.2.2.1, hr.2.2.2.1, (rw2 z y hr wn k).2) hhk y0 k rfl hlt (rw2 z y hr wn k).1 rfl hw64) kl_X6_193 km_X6_doAct kv_X6_doAct ki_X6 kc_X6_doAct (by decide +kernel) rfl (Nat.le_of_ble_eq_true rfl) (Nat.le_of_ble_eq_true rfl) (fun _ h => h) 0 rfl rfl (fun s => s) (fun _ _ _ _ h => h) rfl (Nat.le_of_ble_eq_true rfl) dX6_round_31 (fun v9 s9 hv9 => ?_)
          obtain ⟨rfl, cf2, rfl, hh2⟩ := hv9
          refine g_iinc 34 O (v := nI (k + 1)) (q := 0) (lv' := [(1, .int (nI (k + 1))), (0, .ref (a 0))]) dX6_round_34 rfl (nI_1 k) (by decide) rfl ?_
          refine g_goto 37 O 21 dX6_round_37 (by decide) ?_
          refine g_sub [0, 1] (lv' := [(1, .int (nI (k + 1))), (0, .ref (a 0))]) rfl ?_
          exact ih21 (k + 1) cf2 (by omega) (bh_lt hh hlt _ hw64) hh2 (by omega)
    exact L21 _ 0 cf (Nat.zero_le _) hwn0 hh (Nat.lt_succ_self _)
  · -- not taken
    have y0 : y.1 = 0 := m0 (by have := hy.1; omega) (hw ▸ h4)
    refine g_bipush 7 O (v := (-103)) dX6_round_7 (by decide) ?_
    exact g_iret 9 O dX6_round_9 (by rw [hP0, A_round, if_pos y0, NS_round, N_roundW, N_roundH, N_roundR, if_pos y0, if_pos y0, if_pos y0]; exact ⟨_, rfl, rfl, hS9⟩)

set_option maxRecDepth 100000 in
set_option maxHeartbeats 4000000 in
theorem c_X6_anyhow (l : Launch) (E : Ev) (a : Nat → Nat) (mw msd mn mon mhn mrd mtn mad mpn : Int32) (se wo jf ow oj kf ff vf cf tf pb : Nat → Int32) (fat whl nw : Int32) (nwd njn : Nat → Int32) (rd : Int32) (so vl : Nat → Int64) (jg : Nat → Int32) (tko : Nat → Int32) (sdn hh_ : Int64) (ik kw kh kr kt : Int32) (kc ko : Nat → Int32) (wn : Nat) (rn sn0 : Int32) (adn pn : Nat) (pc : Nat → Int32) (z : Nat → Nat) (y o : Sy) (hr : Hr) (tl : Tl) (ib : Bool) (iw : Nat) (ir : Int32) (ih : Hr) (it : Tl) (hS : RMc mw msd mn mon mhn mrd mtn mad mpn se wo jf ow oj kf ff vf cf tf pb ik kw kh kr kt kc ko wn rn sn0 adn pn pc z y o hr tl ib iw ir ih it) : Ctr l yX6_anyhow cX6_anyhow 1 (some .int) 5 139 E (wM E a) [.ref (a 0)] (((mw, msd, mn, mon, mhn, mrd, mtn, mad, mpn), (se, wo, jf, ow, oj, kf, ff, vf, cf, tf, pb), (fat, whl, nw, nwd, njn), (rd, so, vl, jg), tko, (sdn, hh_), (ik, kw, kh, kr, kt, kc, ko))) (pI (fun r x => r = A_anyhow z y hr ∧ RM x (((wn, rn, sn0, adn), (pn, pc), z, y, o, hr, tl, ib, iw, ir, ih, it)))) := by
  refine Ctr.of' (by decide +kernel) (Nat.le_of_ble_eq_true rfl) (fun X P0 hP0 O => ?_)
  refine g_sub [0] (lv' := [(0, .ref (a 0))]) rfl ?_
  have hS9 := hS
  obtain ⟨⟨hwn, hwn0⟩, hrn, hsn, ⟨had, had0⟩, ⟨hpn, hpn0, hpb⟩, hz, ⟨hw, hy⟩, ⟨ho, hyo⟩, hh, ht, hik, hkp⟩ := hS
  refine g_aload_n 0 O dX6_anyhow_0 rfl 0 rfl ?_
  refine g_get 1 O (v := .int mn) inX6 0 rfl rfl 3 (by decide) kf_X6_97 rfl dX6_anyhow_1 ?_
  refine g_if_ne 4 O 12 dX6_anyhow_4 (by decide) (fun h4 => ?_) (fun h4 => ?_)
  · -- taken
    have y0 : ¬ y.1 = 0 := n0 (hw ▸ h4)
    refine g_aload_n 12 O dX6_anyhow_12 rfl 0 rfl ?_
    refine g_callV 13 O (na := 0) (av := []) (c_X6_anyhowNow l E a mw msd mn mon mhn mrd mtn mad mpn se wo jf ow oj kf ff vf cf tf pb fat whl nw nwd njn rd so vl jg tko sdn hh_ ik kw kh kr kt kc ko y z hw hy hz hr hh y0) kl_X6_210 km_X6_anyhowNow kv_X6_anyhowNow ki_X6 kc_X6_anyhowNow (by decide +kernel) rfl (Nat.le_of_ble_eq_true rfl) (Nat.le_of_ble_eq_true rfl) (fun _ h => h) 0 rfl rfl (fun s => s) (fun _ _ _ _ h => h) rfl (Nat.le_of_ble_eq_true rfl) dX6_anyhow_13 (fun v9 s9 hv9 => ?_)
    obtain ⟨r9, rfl, rfl, so', vl', jg', tko', rfl, hso⟩ := hv9
    exact g_iret 16 O dX6_anyhow_16 (by rw [hP0, A_anyhow, if_neg y0]; exact ⟨_, rfl, rfl, hS9⟩)
  · -- not taken
    have y0 : y.1 = 0 := m0 (by have := hy.1; omega) (hw ▸ h4)
    refine g_bipush 7 O (v := (-103)) dX6_anyhow_7 (by decide) ?_
    refine g_goto 9 O 16 dX6_anyhow_9 (by decide) ?_
    exact g_iret 16 O dX6_anyhow_16 (by rw [hP0, A_anyhow, if_pos y0]; exact ⟨_, rfl, rfl, hS9⟩)

set_option maxRecDepth 100000 in
set_option maxHeartbeats 4000000 in
theorem c_X6_left (l : Launch) (E : Ev) (a : Nat → Nat) (mw msd mn mon mhn mrd mtn mad mpn : Int32) (se wo jf ow oj kf ff vf cf tf pb : Nat → Int32) (fat whl nw : Int32) (nwd njn : Nat → Int32) (rd : Int32) (so vl : Nat → Int64) (jg : Nat → Int32) (tko : Nat → Int32) (sdn hh_ : Int64) (ik kw kh kr kt : Int32) (kc ko : Nat → Int32) (p0 : Int32) (wn : Nat) (rn sn0 : Int32) (adn pn : Nat) (pc : Nat → Int32) (z : Nat → Nat) (y o : Sy) (hr : Hr) (tl : Tl) (ib : Bool) (iw : Nat) (ir : Int32) (ih : Hr) (it : Tl) (hS : RMc mw msd mn mon mhn mrd mtn mad mpn se wo jf ow oj kf ff vf cf tf pb ik kw kh kr kt kc ko wn rn sn0 adn pn pc z y o hr tl ib iw ir ih it) : Ctr l yX6_left cX6_left 2 (some .int) 5 142 E (wM E a) [.ref (a 0), .int p0] (((mw, msd, mn, mon, mhn, mrd, mtn, mad, mpn), (se, wo, jf, ow, oj, kf, ff, vf, cf, tf, pb), (fat, whl, nw, nwd, njn), (rd, so, vl, jg), tko, (sdn, hh_), (ik, kw, kh, kr, kt, kc, ko))) (pI (fun r x => r = A_left z y o p0 ∧ RM x (((wn, rn, sn0, adn), (pn, pc), z, y, o, hr, tl, ib, iw, ir, ih, it)))) := by
  refine Ctr.of' (by decide +kernel) (Nat.le_of_ble_eq_true rfl) (fun X P0 hP0 O => ?_)
  refine g_sub [0, 1] (lv' := [(0, .ref (a 0)), (1, .int p0)]) rfl ?_
  have hS9 := hS
  obtain ⟨⟨hwn, hwn0⟩, hrn, hsn, ⟨had, had0⟩, ⟨hpn, hpn0, hpb⟩, hz, ⟨hw, hy⟩, ⟨ho, hyo⟩, hh, ht, hik, hkp⟩ := hS
  refine g_iload_n 0 O dX6_left_0 rfl 1 rfl ?_
  refine g_iconst 1 O (v := 0) dX6_left_1 (by decide) ?_
  refine g_iconst 2 O (v := 2) dX6_left_2 (by decide) ?_
  refine g_callS 3 O (na := 3) (av := [.int p0, .int 0, .int 2]) (c_X6_within l E _ _ p0 0 2) kl_X6_69 ks_X6_within ki_X6 kc_X6_within (by decide +kernel) rfl (Nat.le_of_ble_eq_true rfl) (Nat.le_of_ble_eq_true rfl) (fun _ h => h) (fun s => s) (fun _ _ _ _ h => h) rfl (Nat.le_of_ble_eq_true rfl) dX6_left_3 (fun v9 s9 hv9 => ?_)
  obtain ⟨rfl, rfl⟩ := hv9
  refine g_if_ne 6 O 12 dX6_left_6 (by decide) (fun h6 => ?_) (fun h6 => ?_)
  · -- taken
    refine g_aload_n 12 O dX6_left_12 rfl 0 rfl ?_
    refine g_get 13 O (v := .int mn) inX6 0 rfl rfl 3 (by decide) kf_X6_97 rfl dX6_left_13 ?_
    refine g_if_ne 16 O 24 dX6_left_16 (by decide) (fun h16 => ?_) (fun h16 => ?_)
    · -- taken
      have y0 : ¬ y.1 = 0 := n0 (hw ▸ h16)
      refine g_aload_n 24 O dX6_left_24 rfl 0 rfl ?_
      refine g_iload_n 25 O dX6_left_25 rfl 1 rfl ?_
      refine g_callV 26 O (na := 1) (av := [.int p0]) (c_X6_leftNow l E a mw msd mn mon mhn mrd mtn mad mpn se wo jf ow oj kf ff vf cf tf pb fat whl nw nwd njn rd so vl jg tko sdn hh_ ik kw kh kr kt kc ko p0 y z hw hy hz o ho hyo) kl_X6_214 km_X6_leftNow kv_X6_leftNow ki_X6 kc_X6_leftNow (by decide +kernel) rfl (Nat.le_of_ble_eq_true rfl) (Nat.le_of_ble_eq_true rfl) (fun _ h => h) 0 rfl rfl (fun s => s) (fun _ _ _ _ h => h) rfl (Nat.le_of_ble_eq_true rfl) dX6_left_26 (fun v9 s9 hv9 => ?_)
      obtain ⟨r9, rfl, rfl, so', vl', jg', rfl, hso⟩ := hv9
      exact g_iret 29 O dX6_left_29 (by rw [hP0, A_left, if_pos (ite_t h6), if_neg y0]; exact ⟨_, rfl, rfl, hS9⟩)
    · -- not taken
      have y0 : y.1 = 0 := m0 (by have := hy.1; omega) (hw ▸ h16)
      refine g_bipush 19 O (v := (-103)) dX6_left_19 (by decide) ?_
      refine g_goto 21 O 29 dX6_left_21 (by decide) ?_
      exact g_iret 29 O dX6_left_29 (by rw [hP0, A_left, if_pos (ite_t h6), if_pos y0]; exact ⟨_, rfl, rfl, hS9⟩)
  · -- not taken
    refine g_bipush 9 O (v := (-102)) dX6_left_9 (by decide) ?_
    exact g_iret 11 O dX6_left_11 (by rw [hP0, A_left, if_neg (ite_f h6)]; exact ⟨_, rfl, rfl, hS9⟩)

set_option maxRecDepth 100000 in
set_option maxHeartbeats 4000000 in
theorem c_X6_ask (l : Launch) (E : Ev) (a : Nat → Nat) (mw msd mn mon mhn mrd mtn mad mpn : Int32) (se wo jf ow oj kf ff vf cf tf pb : Nat → Int32) (fat whl nw : Int32) (nwd njn : Nat → Int32) (rd : Int32) (so vl : Nat → Int64) (jg : Nat → Int32) (tko : Nat → Int32) (sdn hh_ : Int64) (ik kw kh kr kt : Int32) (kc ko : Nat → Int32) (wn : Nat) (rn sn0 : Int32) (adn pn : Nat) (pc : Nat → Int32) (z : Nat → Nat) (y o : Sy) (hr : Hr) (tl : Tl) (ib : Bool) (iw : Nat) (ir : Int32) (ih : Hr) (it : Tl) (hS : RMc mw msd mn mon mhn mrd mtn mad mpn se wo jf ow oj kf ff vf cf tf pb ik kw kh kr kt kc ko wn rn sn0 adn pn pc z y o hr tl ib iw ir ih it) : Ctr l yX6_ask cX6_ask 1 (some .int) 5 143 E (wM E a) [.ref (a 0)] (((mw, msd, mn, mon, mhn, mrd, mtn, mad, mpn), (se, wo, jf, ow, oj, kf, ff, vf, cf, tf, pb), (fat, whl, nw, nwd, njn), (rd, so, vl, jg), tko, (sdn, hh_), (ik, kw, kh, kr, kt, kc, ko))) (pI (fun r x => r = A_ask z y ∧ RM x (((wn, rn, sn0, adn), (pn, pc), z, y, o, hr, tl, ib, iw, ir, ih, it)))) := by
  refine Ctr.of' (by decide +kernel) (Nat.le_of_ble_eq_true rfl) (fun X P0 hP0 O => ?_)
  refine g_sub [0] (lv' := [(0, .ref (a 0))]) rfl ?_
  have hS9 := hS
  obtain ⟨⟨hwn, hwn0⟩, hrn, hsn, ⟨had, had0⟩, ⟨hpn, hpn0, hpb⟩, hz, ⟨hw, hy⟩, ⟨ho, hyo⟩, hh, ht, hik, hkp⟩ := hS
  refine g_aload_n 0 O dX6_ask_0 rfl 0 rfl ?_
  refine g_get 1 O (v := .int mn) inX6 0 rfl rfl 3 (by decide) kf_X6_97 rfl dX6_ask_1 ?_
  refine g_if_ne 4 O 12 dX6_ask_4 (by decide) (fun h4 => ?_) (fun h4 => ?_)
  · -- taken
    have y0 : ¬ y.1 = 0 := n0 (hw ▸ h4)
    refine g_aload_n 12 O dX6_ask_12 rfl 0 rfl ?_
    refine g_callV 13 O (na := 0) (av := []) (c_X6_askNow l E a mw msd mn mon mhn mrd mtn mad mpn se wo jf ow oj kf ff vf cf tf pb fat whl nw nwd njn rd so vl jg tko sdn hh_ ik kw kh kr kt kc ko y z hw hy hz) kl_X6_217 km_X6_askNow kv_X6_askNow ki_X6 kc_X6_askNow (by decide +kernel) rfl (Nat.le_of_ble_eq_true rfl) (Nat.le_of_ble_eq_true rfl) (fun _ h => h) 0 rfl rfl (fun s => s) (fun _ _ _ _ h => h) rfl (Nat.le_of_ble_eq_true rfl) dX6_ask_13 (fun v9 s9 hv9 => ?_)
    obtain ⟨r9, rfl, rfl, so', vl', jg', rfl, hso⟩ := hv9
    exact g_iret 16 O dX6_ask_16 (by rw [hP0, A_ask, if_neg y0]; exact ⟨_, rfl, rfl, hS9⟩)
  · -- not taken
    have y0 : y.1 = 0 := m0 (by have := hy.1; omega) (hw ▸ h4)
    refine g_bipush 7 O (v := (-103)) dX6_ask_7 (by decide) ?_
    refine g_goto 9 O 16 dX6_ask_9 (by decide) ?_
    exact g_iret 16 O dX6_ask_16 (by rw [hP0, A_ask, if_pos y0]; exact ⟨_, rfl, rfl, hS9⟩)

set_option maxRecDepth 100000 in
set_option maxHeartbeats 4000000 in
theorem c_X6_add (l : Launch) (E : Ev) (a : Nat → Nat) (mw msd mn mon mhn mrd mtn mad mpn : Int32) (se wo jf ow oj kf ff vf cf tf pb : Nat → Int32) (fat whl nw : Int32) (nwd njn : Nat → Int32) (rd : Int32) (so vl : Nat → Int64) (jg : Nat → Int32) (tko : Nat → Int32) (sdn hh_ : Int64) (ik kw kh kr kt : Int32) (kc ko : Nat → Int32) (p0 : Int32) (wn : Nat) (rn sn0 : Int32) (adn pn : Nat) (pc : Nat → Int32) (z : Nat → Nat) (y o : Sy) (hr : Hr) (tl : Tl) (ib : Bool) (iw : Nat) (ir : Int32) (ih : Hr) (it : Tl) (hS : RMc mw msd mn mon mhn mrd mtn mad mpn se wo jf ow oj kf ff vf cf tf pb ik kw kh kr kt kc ko wn rn sn0 adn pn pc z y o hr tl ib iw ir ih it) : Ctr l yX6_add cX6_add 2 (some .int) 5 140 E (wM E a) [.ref (a 0), .int p0] (((mw, msd, mn, mon, mhn, mrd, mtn, mad, mpn), (se, wo, jf, ow, oj, kf, ff, vf, cf, tf, pb), (fat, whl, nw, nwd, njn), (rd, so, vl, jg), tko, (sdn, hh_), (ik, kw, kh, kr, kt, kc, ko))) (pI (fun r x => r = A_add z y wn adn p0 ∧ RM x (NS_add ((wn, rn, sn0, adn), (pn, pc), z, y, o, hr, tl, ib, iw, ir, ih, it) p0))) := by
  refine Ctr.of' (by decide +kernel) (Nat.le_of_ble_eq_true rfl) (fun X P0 hP0 O => ?_)
  refine g_sub [0, 1] (lv' := [(0, .ref (a 0)), (1, .int p0)]) rfl ?_
  have hS9 := hS
  obtain ⟨⟨hwn, hwn0⟩, hrn, hsn, ⟨had, had0⟩, ⟨hpn, hpn0, hpb⟩, hz, ⟨hw, hy⟩, ⟨ho, hyo⟩, hh, ht, hik, hkp⟩ := hS
  refine g_iload_n 0 O dX6_add_0 rfl 1 rfl ?_
  refine g_iconst 1 O (v := 0) dX6_add_1 (by decide) ?_
  refine g_iconst 2 O (v := 1) dX6_add_2 (by decide) ?_
  refine g_callS 3 O (na := 3) (av := [.int p0, .int 0, .int 1]) (c_X6_within l E _ _ p0 0 1) kl_X6_69 ks_X6_within ki_X6 kc_X6_within (by decide +kernel) rfl (Nat.le_of_ble_eq_true rfl) (Nat.le_of_ble_eq_true rfl) (fun _ h => h) (fun s => s) (fun _ _ _ _ h => h) rfl (Nat.le_of_ble_eq_true rfl) dX6_add_3 (fun v9 s9 hv9 => ?_)
  obtain ⟨rfl, rfl⟩ := hv9
  refine g_if_ne 6 O 12 dX6_add_6 (by decide) (fun h6 => ?_) (fun h6 => ?_)
  · -- taken
    refine g_aload_n 12 O dX6_add_12 rfl 0 rfl ?_
    refine g_get 13 O (v := .int mn) inX6 0 rfl rfl 3 (by decide) kf_X6_97 rfl dX6_add_13 ?_
    refine g_if_eq 16 O 36 dX6_add_16 (by decide) (fun h16 => ?_) (fun h16 => ?_)
    · -- taken
      have y0 : y.1 = 0 := m0 (by have := hy.1; omega) (hw ▸ h16)
      refine g_bipush 36 O (v := (-103)) dX6_add_36 (by decide) ?_
      exact g_iret 38 O dX6_add_38 (by rw [hP0, A_add, if_pos (ite_t h6), if_neg (fun q => q.1 y0), NS_add, N_add, if_neg (fun q => (fun q => q.1 y0) q.2)]; exact ⟨_, rfl, rfl, hS9⟩)
    · -- not taken
      have y0 : ¬ y.1 = 0 := n0 (hw ▸ h16)
      refine g_aload_n 19 O dX6_add_19 rfl 0 rfl ?_
      refine g_get 20 O (v := .int mn) inX6 0 rfl rfl 3 (by decide) kf_X6_97 rfl dX6_add_20 ?_
      refine g_si (nI y.1) (hw) ?_
      refine g_iconst 23 O (v := 4) dX6_add_23 (by decide) ?_
      refine g_icmp_eq 24 O 36 dX6_add_24 (by decide) (fun h24 => ?_) (fun h24 => ?_)
      · -- taken
        have y4 : y.1 = 4 := (nI_eq (b := 4) (by have := hy.1; omega) (by decide)).mp h24
        refine g_bipush 36 O (v := (-103)) dX6_add_36 (by decide) ?_
        exact g_iret 38 O dX6_add_38 (by rw [hP0, A_add, if_pos (ite_t h6), if_neg (fun q => by have : y.1 < 4 := q.2.1; omega), NS_add, N_add, if_neg (fun q => (fun q => by have : y.1 < 4 := q.2.1; omega) q.2)]; exact ⟨_, rfl, rfl, hS9⟩)
      · -- not taken
        have y4 : y.1 < 4 := by have := hy.1; have : ¬ y.1 = 4 := fun e => h24 (by rw [e]; rfl); omega
        refine g_aload_n 27 O dX6_add_27 rfl 0 rfl ?_
        refine g_get 28 O (v := .int mad) inX6 0 rfl rfl 17 (by decide) kf_X6_220 rfl dX6_add_28 ?_
        refine g_si (nI adn) (had) ?_
        refine g_bipush 31 O (v := 60) dX6_add_31 (by decide) ?_
        refine g_icmp_ne 33 O 39 dX6_add_33 (by decide) (fun h33 => ?_) (fun h33 => ?_)
        · -- taken
          have a60 : adn < 60 := by have : ¬ adn = 60 := fun e => h33 (by rw [e]; rfl); omega
          refine g_aload_n 39 O dX6_add_39 rfl 0 rfl ?_
          refine g_dup 40 O dX6_add_40 rfl ?_
          refine g_get 41 O (v := .int mad) inX6 0 rfl rfl 17 (by decide) kf_X6_220 rfl dX6_add_41 ?_
          refine g_iconst 44 O (v := 1) dX6_add_44 (by decide) ?_
          refine g_iadd 45 O dX6_add_45 ?_
          refine g_si (nI (adn + 1)) (by rw [had]; exact nI_1 adn) ?_
          refine g_put 46 O inX6 tyX6_ok nmX6 (((mw, msd, mn, mon, mhn, mrd, mtn, nI (adn + 1), mpn), (se, wo, jf, ow, oj, kf, ff, vf, cf, tf, pb), (fat, whl, nw, nwd, njn), (rd, so, vl, jg), tko, (sdn, hh_), (ik, kw, kh, kr, kt, kc, ko))) 0 rfl rfl 17 (by decide) kf_X6_220 rfl (rfl) (rfl) (Nat.le_of_ble_eq_true rfl) rfl dX6_add_46 ?_
          refine g_aload_n 49 O dX6_add_49 rfl 0 rfl ?_
          refine g_iload_n 50 O dX6_add_50 rfl 1 rfl ?_
          refine g_callV 51 O (na := 1) (av := [.int p0]) (c_X6_addNow l E a mw msd mn mon mhn mrd mtn (nI (adn + 1)) mpn se wo jf ow oj kf ff vf cf tf pb fat whl nw nwd njn rd so vl jg tko sdn hh_ ik kw kh kr kt kc ko p0 y z hw hy hz y4 y0 wn hwn hwn0) kl_X6_223 km_X6_addNow kv_X6_addNow ki_X6 kc_X6_addNow (by decide +kernel) rfl (Nat.le_of_ble_eq_true rfl) (Nat.le_of_ble_eq_true rfl) (fun _ h => h) 0 rfl rfl (fun s => s) (fun _ _ _ _ h => h) rfl (Nat.le_of_ble_eq_true rfl) dX6_add_51 (fun v9 s9 hv9 => ?_)
          obtain ⟨r9, rfl, rfl, rd', so', vl', jg', wo', jf', rfl, hyw⟩ := hv9
          exact g_iret 54 O dX6_add_54 (by rw [hP0, A_add, if_pos (ite_t h6), if_pos ⟨y0, y4, a60⟩, NS_add, N_add, if_pos (show ok1 p0 ∧ ¬ y.1 = 0 ∧ y.1 < 4 ∧ adn < 60 from ⟨ite_t h6, y0, y4, a60⟩)]; exact ⟨_, rfl, rfl, ⟨⟨hwn, hwn0⟩, hrn, hsn, ⟨rfl, a60⟩, ⟨hpn, hpn0, hpb⟩, hz, ⟨hw, hyw⟩, ⟨ho, hyo⟩, hh, ht, hik, hkp⟩⟩)
        · -- not taken
          have a60 : adn = 60 := (nI_eq (b := 60) (by omega) (by decide)).mp h33
          refine g_bipush 36 O (v := (-103)) dX6_add_36 (by decide) ?_
          exact g_iret 38 O dX6_add_38 (by rw [hP0, A_add, if_pos (ite_t h6), if_neg (fun q => by have : adn < 60 := q.2.2; omega), NS_add, N_add, if_neg (fun q => (fun q => by have : adn < 60 := q.2.2; omega) q.2)]; exact ⟨_, rfl, rfl, hS9⟩)
  · -- not taken
    refine g_bipush 9 O (v := (-102)) dX6_add_9 (by decide) ?_
    exact g_iret 11 O dX6_add_11 (by rw [hP0, A_add, if_neg (ite_f h6), NS_add, N_add, if_neg (fun q => ite_f h6 q.1)]; exact ⟨_, rfl, rfl, hS9⟩)

theorem tell_ok {a : Int32} {b : Nat → Int32} {y : Tl} (ht : TlW (a, b) y) {p0 : Int32} {u : Nat} (hu : p0 = nI u) (hu0 : u < 64) : TlW (1, upd b 0 p0) (1, fun k => if k = 0 then u else y.2 k) := by
  refine ⟨rfl, Nat.le_of_ble_eq_true rfl, fun k hk => ?_⟩
  have hk : k < 1 := hk
  have e : k = 0 := by omega
  subst e
  exact ⟨by show upd b 0 p0 0 = nI (if 0 = 0 then u else y.2 0); rw [upd_s]; exact hu, hu0⟩

set_option maxRecDepth 100000 in
set_option maxHeartbeats 4000000 in
theorem c_X6_tell (l : Launch) (E : Ev) (a : Nat → Nat) (mw msd mn mon mhn mrd mtn mad mpn : Int32) (se wo jf ow oj kf ff vf cf tf pb : Nat → Int32) (fat whl nw : Int32) (nwd njn : Nat → Int32) (rd : Int32) (so vl : Nat → Int64) (jg : Nat → Int32) (tko : Nat → Int32) (sdn hh_ : Int64) (ik kw kh kr kt : Int32) (kc ko : Nat → Int32) (p0 : Int32) (wn : Nat) (rn sn0 : Int32) (adn pn : Nat) (pc : Nat → Int32) (z : Nat → Nat) (y o : Sy) (hr : Hr) (tl : Tl) (ib : Bool) (iw : Nat) (ir : Int32) (ih : Hr) (it : Tl) (hS : RMc mw msd mn mon mhn mrd mtn mad mpn se wo jf ow oj kf ff vf cf tf pb ik kw kh kr kt kc ko wn rn sn0 adn pn pc z y o hr tl ib iw ir ih it) : Ctr l yX6_tell cX6_tell 3 (some .int) 2 42 E (wM E a) [.ref (a 0), .int p0] (((mw, msd, mn, mon, mhn, mrd, mtn, mad, mpn), (se, wo, jf, ow, oj, kf, ff, vf, cf, tf, pb), (fat, whl, nw, nwd, njn), (rd, so, vl, jg), tko, (sdn, hh_), (ik, kw, kh, kr, kt, kc, ko))) (pI (fun r x => r = A_tell tl p0 ∧ RM x (NS_tell ((wn, rn, sn0, adn), (pn, pc), z, y, o, hr, tl, ib, iw, ir, ih, it) p0))) := by
  refine Ctr.of' (by decide +kernel) (Nat.le_of_ble_eq_true rfl) (fun X P0 hP0 O => ?_)
  refine g_sub [0, 1] (lv' := [(0, .ref (a 0)), (1, .int p0)]) rfl ?_
  have hS9 := hS
  obtain ⟨⟨hwn, hwn0⟩, hrn, hsn, ⟨had, had0⟩, ⟨hpn, hpn0, hpb⟩, hz, ⟨hw, hy⟩, ⟨ho, hyo⟩, hh, ht, hik, hkp⟩ := hS
  refine g_iload_n 0 O dX6_tell_0 rfl 1 rfl ?_
  refine g_callS 1 O (na := 1) (av := [.int p0]) (c_X6_isWorld l E _ _ p0) kl_X6_155 ks_X6_isWorld ki_X6 kc_X6_isWorld (by decide +kernel) rfl (Nat.le_of_ble_eq_true rfl) (Nat.le_of_ble_eq_true rfl) (fun _ h => h) (fun s => s) (fun _ _ _ _ h => h) rfl (Nat.le_of_ble_eq_true rfl) dX6_tell_1 (fun v9 s9 hv9 => ?_)
  obtain ⟨rfl, rfl⟩ := hv9
  refine g_if_ne 4 O 10 dX6_tell_4 (by decide) (fun h4 => ?_) (fun h4 => ?_)
  · -- taken
    obtain ⟨u, hu0, hu, huc⟩ := rng_of (n := 64) (by decide) (ite_t h4)
    refine g_aload_n 10 O dX6_tell_10 rfl 0 rfl ?_
    refine g_get 11 O (v := .int mtn) inX6 0 rfl rfl 15 (by decide) kf_X6_226 rfl dX6_tell_11 ?_
    refine g_istore_n 14 O (lv' := [(2, .int mtn), (0, .ref (a 0)), (1, .int p0)]) dX6_tell_14 rfl (by decide) rfl ?_
    refine g_aload_n 15 O dX6_tell_15 rfl 1 rfl ?_
    refine g_get 16 O (v := .ref (a 10)) inX6 0 rfl rfl 16 (by decide) kf_X6_37 rfl dX6_tell_16 ?_
    refine g_iconst 19 O (v := 0) dX6_tell_19 (by decide) ?_
    refine g_iload_n 20 O dX6_tell_20 rfl 2 rfl ?_
    refine g_iast 21 O (((mw, msd, mn, mon, mhn, mrd, mtn, mad, mpn), (se, wo, jf, ow, oj, kf, ff, vf, cf, upd tf 0 p0, pb), (fat, whl, nw, nwd, njn), (rd, so, vl, jg), tko, (sdn, hh_), (ik, kw, kh, kr, kt, kc, ko))) 10 0 rfl (rfl) (by decide) (by decide) rfl dX6_tell_21 ?_
    refine g_aload_n 22 O dX6_tell_22 rfl 1 rfl ?_
    refine g_iconst 23 O (v := 1) dX6_tell_23 (by decide) ?_
    refine g_put 24 O inX6 tyX6_ok nmX6 (((mw, msd, mn, mon, mhn, mrd, 1, mad, mpn), (se, wo, jf, ow, oj, kf, ff, vf, cf, upd tf 0 p0, pb), (fat, whl, nw, nwd, njn), (rd, so, vl, jg), tko, (sdn, hh_), (ik, kw, kh, kr, kt, kc, ko))) 0 rfl rfl 15 (by decide) kf_X6_226 rfl (rfl) (rfl) (Nat.le_of_ble_eq_true rfl) rfl dX6_tell_24 ?_
    refine g_iload_n 27 O dX6_tell_27 rfl 0 rfl ?_
    refine g_si (nI tl.1) (ht.1) ?_
    exact g_iret 28 O dX6_tell_28 (by rw [hP0, A_tell, if_pos (ite_t h4), NS_tell, N_tell, if_pos (ite_t h4), huc]; exact ⟨_, rfl, rfl, ⟨⟨hwn, hwn0⟩, hrn, hsn, ⟨had, had0⟩, ⟨hpn, hpn0, hpb⟩, hz, ⟨hw, hy⟩, ⟨ho, hyo⟩, hh, tell_ok ht hu hu0, hik, hkp⟩⟩)
  · -- not taken
    refine g_bipush 7 O (v := (-101)) dX6_tell_7 (by decide) ?_
    exact g_iret 9 O dX6_tell_9 (by rw [hP0, A_tell, if_neg (ite_f h4), NS_tell, N_tell, if_neg (ite_f h4)]; exact ⟨_, rfl, rfl, hS9⟩)

set_option maxRecDepth 100000 in
set_option maxHeartbeats 4000000 in
theorem c_X6_then (l : Launch) (E : Ev) (a : Nat → Nat) (mw msd mn mon mhn mrd mtn mad mpn : Int32) (se wo jf ow oj kf ff vf cf tf pb : Nat → Int32) (fat whl nw : Int32) (nwd njn : Nat → Int32) (rd : Int32) (so vl : Nat → Int64) (jg : Nat → Int32) (tko : Nat → Int32) (sdn hh_ : Int64) (ik kw kh kr kt : Int32) (kc ko : Nat → Int32) (p0 : Int32) (wn : Nat) (rn sn0 : Int32) (adn pn : Nat) (pc : Nat → Int32) (z : Nat → Nat) (y o : Sy) (hr : Hr) (tl : Tl) (ib : Bool) (iw : Nat) (ir : Int32) (ih : Hr) (it : Tl) (hS : RMc mw msd mn mon mhn mrd mtn mad mpn se wo jf ow oj kf ff vf cf tf pb ik kw kh kr kt kc ko wn rn sn0 adn pn pc z y o hr tl ib iw ir ih it) : Ctr l yX6_then cX6_then 2 (some .int) 2 42 E (wM E a) [.ref (a 0), .int p0] (((mw, msd, mn, mon, mhn, mrd, mtn, mad, mpn), (se, wo, jf, ow, oj, kf, ff, vf, cf, tf, pb), (fat, whl, nw, nwd, njn), (rd, so, vl, jg), tko, (sdn, hh_), (ik, kw, kh, kr, kt, kc, ko))) (pI (fun r x => r = A_then tl p0 ∧ RM x (NS_then ((wn, rn, sn0, adn), (pn, pc), z, y, o, hr, tl, ib, iw, ir, ih, it) p0))) := by
  refine Ctr.of' (by decide +kernel) (Nat.le_of_ble_eq_true rfl) (fun X P0 hP0 O => ?_)
  refine g_sub [0, 1] (lv' := [(0, .ref (a 0)), (1, .int p0)]) rfl ?_
  have hS9 := hS
  obtain ⟨⟨hwn, hwn0⟩, hrn, hsn, ⟨had, had0⟩, ⟨hpn, hpn0, hpb⟩, hz, ⟨hw, hy⟩, ⟨ho, hyo⟩, hh, ht, hik, hkp⟩ := hS
  refine g_aload_n 0 O dX6_then_0 rfl 0 rfl ?_
  refine g_get 1 O (v := .int mtn) inX6 0 rfl rfl 15 (by decide) kf_X6_226 rfl dX6_then_1 ?_
  refine g_if_ne 4 O 10 dX6_then_4 (by decide) (fun h4 => ?_) (fun h4 => ?_)
  · -- taken
    have t0 : ¬ tl.1 = 0 := n0 (ht.1 ▸ h4)
    refine g_iload_n 10 O dX6_then_10 rfl 1 rfl ?_
    refine g_callS 11 O (na := 1) (av := [.int p0]) (c_X6_isWorld l E _ _ p0) kl_X6_155 ks_X6_isWorld ki_X6 kc_X6_isWorld (by decide +kernel) rfl (Nat.le_of_ble_eq_true rfl) (Nat.le_of_ble_eq_true rfl) (fun _ h => h) (fun s => s) (fun _ _ _ _ h => h) rfl (Nat.le_of_ble_eq_true rfl) dX6_then_11 (fun v9 s9 hv9 => ?_)
    obtain ⟨rfl, rfl⟩ := hv9
    refine g_if_ne 14 O 20 dX6_then_14 (by decide) (fun h14 => ?_) (fun h14 => ?_)
    · -- taken
      obtain ⟨u, hu0, hu, huc⟩ := rng_of (n := 64) (by decide) (ite_t h14)
      refine g_aload_n 20 O dX6_then_20 rfl 0 rfl ?_
      refine g_get 21 O (v := .int mtn) inX6 0 rfl rfl 15 (by decide) kf_X6_226 rfl dX6_then_21 ?_
      refine g_si (nI tl.1) (ht.1) ?_
      refine g_bipush 24 O (v := 6) dX6_then_24 (by decide) ?_
      refine g_icmp_ne 26 O 32 dX6_then_26 (by decide) (fun h26 => ?_) (fun h26 => ?_)
      · -- taken
        have t6 : tl.1 < 6 := by have := ht.2.1; have : ¬ tl.1 = 6 := fun e => h26 (by rw [e]; rfl); omega
        refine g_aload_n 32 O dX6_then_32 rfl 0 rfl ?_
        refine g_get 33 O (v := .ref (a 10)) inX6 0 rfl rfl 16 (by decide) kf_X6_37 rfl dX6_then_33 ?_
        refine g_aload_n 36 O dX6_then_36 rfl 0 rfl ?_
        refine g_get 37 O (v := .int mtn) inX6 0 rfl rfl 15 (by decide) kf_X6_226 rfl dX6_then_37 ?_
        refine g_iload_n 40 O dX6_then_40 rfl 1 rfl ?_
        refine g_iast 41 O (((mw, msd, mn, mon, mhn, mrd, mtn, mad, mpn), (se, wo, jf, ow, oj, kf, ff, vf, cf, upd tf tl.1 p0, pb), (fat, whl, nw, nwd, njn), (rd, so, vl, jg), tko, (sdn, hh_), (ik, kw, kh, kr, kt, kc, ko))) 10 tl.1 rfl (ht.1) (t6) (by decide) rfl dX6_then_41 ?_
        refine g_aload_n 42 O dX6_then_42 rfl 0 rfl ?_
        refine g_dup 43 O dX6_then_43 rfl ?_
        refine g_get 44 O (v := .int mtn) inX6 0 rfl rfl 15 (by decide) kf_X6_226 rfl dX6_then_44 ?_
        refine g_iconst 47 O (v := 1) dX6_then_47 (by decide) ?_
        refine g_iadd 48 O dX6_then_48 ?_
        refine g_si (nI (tl.1 + 1)) (by rw [show mtn = nI tl.1 from ht.1]; exact nI_1 tl.1) ?_
        refine g_put 49 O inX6 tyX6_ok nmX6 (((mw, msd, mn, mon, mhn, mrd, nI (tl.1 + 1), mad, mpn), (se, wo, jf, ow, oj, kf, ff, vf, cf, upd tf tl.1 p0, pb), (fat, whl, nw, nwd, njn), (rd, so, vl, jg), tko, (sdn, hh_), (ik, kw, kh, kr, kt, kc, ko))) 0 rfl rfl 15 (by decide) kf_X6_226 rfl (rfl) (rfl) (Nat.le_of_ble_eq_true rfl) rfl dX6_then_49 ?_
        refine g_aload_n 52 O dX6_then_52 rfl 0 rfl ?_
        refine g_get 53 O (v := .int (nI (tl.1 + 1))) inX6 0 rfl rfl 15 (by decide) kf_X6_226 rfl dX6_then_53 ?_
        exact g_iret 56 O dX6_then_56 (by rw [hP0, A_then, if_neg t0, if_pos (ite_t h14), if_pos t6, NS_then, N_then, if_pos ⟨t0, ite_t h14, t6⟩, huc]; exact ⟨_, rfl, rfl, ⟨⟨hwn, hwn0⟩, hrn, hsn, ⟨had, had0⟩, ⟨hpn, hpn0, hpb⟩, hz, ⟨hw, hy⟩, ⟨ho, hyo⟩, hh, TlW_add ht t6 hu hu0, hik, hkp⟩⟩)
      · -- not taken
        have t6 : tl.1 = 6 := (nI_eq (b := 6) (by have := ht.2.1; omega) (by decide)).mp h26
        refine g_bipush 29 O (v := (-104)) dX6_then_29 (by decide) ?_
        exact g_iret 31 O dX6_then_31 (by rw [hP0, A_then, if_neg t0, if_pos (ite_t h14), if_neg (by omega), NS_then, N_then, if_neg (fun q => by have : tl.1 < 6 := q.2.2; omega)]; exact ⟨_, rfl, rfl, hS9⟩)
    · -- not taken
      refine g_bipush 17 O (v := (-101)) dX6_then_17 (by decide) ?_
      exact g_iret 19 O dX6_then_19 (by rw [hP0, A_then, if_neg t0, if_neg (ite_f h14), NS_then, N_then, if_neg (fun q => ite_f h14 q.2.1)]; exact ⟨_, rfl, rfl, hS9⟩)
  · -- not taken
    have t0 : tl.1 = 0 := m0 (by have := ht.2.1; omega) (ht.1 ▸ h4)
    refine g_bipush 7 O (v := (-103)) dX6_then_7 (by decide) ?_
    exact g_iret 9 O dX6_then_9 (by rw [hP0, A_then, if_pos t0, NS_then, N_then, if_neg (fun q => q.1 t0)]; exact ⟨_, rfl, rfl, hS9⟩)
