theorem pb8 {c : Int32} (h : 32 ≤ c ∧ c ≤ 126) : c.toInt8.toInt32 = c := by
  obtain ⟨j, hj, rfl⟩ := nI_of2 (x := c) (M := 126) (n := 126) rfl (fun q => Int32.not_lt.mpr (Int32.le_trans (show (0 : Int32) ≤ 32 by decide) h.1) q) h.2
  have : ∀ j, j ≤ 126 → (nI j).toInt8.toInt32 = nI j := by decide +kernel
  exact this j hj
theorem pb9 {c : Int32} (h : 32 ≤ c ∧ c ≤ 126) : vp_nar .byte c = c := pb8 h
theorem m0 {n : Nat} (h4 : n < 2 ^ 31) (h : nI n = 0) : n = 0 := (nI_eq (b := 0) h4 (by decide)).mp h
theorem n0 {n : Nat} (h : ¬ nI n = 0) : ¬ n = 0 := fun e => h (by rw [e]; rfl)
theorem ok1_iff {p : Int32} : (0 ≤ p ∧ p ≤ 1) ↔ (p = 0 ∨ p = 1) := by
  constructor
  · intro h
    obtain ⟨k, hk, rfl, -⟩ := rng_le (n := 1) (by decide) h
    have : k = 0 ∨ k = 1 := by omega
    rcases this with rfl | rfl
    · exact Or.inl rfl
    · exact Or.inr rfl
  · intro h
    rcases h with rfl | rfl <;> decide

theorem pg_add {pb pc : Nat → Int32} {pn : Nat} {c : Int32} (hc : 32 ≤ c ∧ c ≤ 126) (h : ∀ k, k < pn → pb k = pc k ∧ 32 ≤ pc k ∧ pc k ≤ 126) {k : Nat} (hk : k < pn + 1) : upd pb pn c k = upd pc pn c k ∧ 32 ≤ upd pc pn c k ∧ upd pc pn c k ≤ 126 := by
  by_cases e : k = pn
  · rw [e, upd_s, upd_s]; exact ⟨rfl, hc⟩
  · rw [upd_n _ _ e, upd_n _ _ e]; exact h k (by omega)

set_option maxRecDepth 100000 in
set_option maxHeartbeats 4000000 in
theorem c_X6_letter (l : Launch) (E : Ev) (a : Nat → Nat) (mw msd mn mon mhn mrd mtn mad mpn : Int32) (se wo jf ow oj kf ff vf cf tf pb : Nat → Int32) (fat whl nw : Int32) (nwd njn : Nat → Int32) (rd : Int32) (so vl : Nat → Int64) (jg : Nat → Int32) (tko : Nat → Int32) (sdn hh_ : Int64) (ik kw kh kr kt : Int32) (kc ko : Nat → Int32) (p0 : Int32) (wn : Nat) (rn sn0 : Int32) (adn pn : Nat) (pc : Nat → Int32) (z : Nat → Nat) (y o : Sy) (hr : Hr) (tl : Tl) (ib : Bool) (iw : Nat) (ir : Int32) (ih : Hr) (it : Tl) (hS : RMc mw msd mn mon mhn mrd mtn mad mpn se wo jf ow oj kf ff vf cf tf pb ik kw kh kr kt kc ko wn rn sn0 adn pn pc z y o hr tl ib iw ir ih it) : Ctr l yX6_letter cX6_letter 2 (some .int) 1 22 E (wM E a) [.ref (a 0), .int p0] (((mw, msd, mn, mon, mhn, mrd, mtn, mad, mpn), (se, wo, jf, ow, oj, kf, ff, vf, cf, tf, pb), (fat, whl, nw, nwd, njn), (rd, so, vl, jg), tko, (sdn, hh_), (ik, kw, kh, kr, kt, kc, ko))) (pI (fun r x => r = A_letter pn p0 ∧ RM x (NS_letter ((wn, rn, sn0, adn), (pn, pc), z, y, o, hr, tl, ib, iw, ir, ih, it) p0))) := by
  refine Ctr.of' (by decide +kernel) (Nat.le_of_ble_eq_true rfl) (fun X P0 hP0 O => ?_)
  refine g_sub [0, 1] (lv' := [(0, .ref (a 0)), (1, .int p0)]) rfl ?_
  have hS9 := hS
  obtain ⟨⟨hwn, hwn0⟩, hrn, hsn, ⟨had, had0⟩, ⟨hpn, hpn0, hpb⟩, hz, ⟨hw, hy⟩, ⟨ho, hyo⟩, hh, ht, hik, hkp⟩ := hS
  refine g_iload_n 0 O dX6_letter_0 rfl 1 rfl ?_
  refine g_bipush 1 O (v := 32) dX6_letter_1 (by decide) ?_
  refine g_bipush 3 O (v := 126) dX6_letter_3 (by decide) ?_
  refine g_callS 5 O (na := 3) (av := [.int p0, .int 32, .int 126]) (c_X6_within l E _ _ p0 32 126) kl_X6_69 ks_X6_within ki_X6 kc_X6_within (by decide +kernel) rfl (Nat.le_of_ble_eq_true rfl) (Nat.le_of_ble_eq_true rfl) (fun _ h => h) (fun s => s) (fun _ _ _ _ h => h) rfl (Nat.le_of_ble_eq_true rfl) dX6_letter_5 (fun v9 s9 hv9 => ?_)
  obtain ⟨rfl, rfl⟩ := hv9
  refine g_if_ne 8 O 14 dX6_letter_8 (by decide) (fun h8 => ?_) (fun h8 => ?_)
  · -- taken
    refine g_aload_n 14 O dX6_letter_14 rfl 0 rfl ?_
    refine g_get 15 O (v := .int mpn) inX6 0 rfl rfl 18 (by decide) kf_X6_73 rfl dX6_letter_15 ?_
    refine g_si (nI pn) (hpn) ?_
    refine g_bipush 18 O (v := 14) dX6_letter_18 (by decide) ?_
    refine g_icmp_ne 20 O 26 dX6_letter_20 (by decide) (fun h20 => ?_) (fun h20 => ?_)
    · -- taken
      have e14 : pn < 14 := by have : ¬ pn = 14 := fun e => h20 (by rw [e]; rfl); omega
      refine g_aload_n 26 O dX6_letter_26 rfl 0 rfl ?_
      refine g_get 27 O (v := .ref (a 11)) inX6 0 rfl rfl 19 (by decide) kf_X6_40 rfl dX6_letter_27 ?_
      refine g_aload_n 30 O dX6_letter_30 rfl 0 rfl ?_
      refine g_get 31 O (v := .int mpn) inX6 0 rfl rfl 18 (by decide) kf_X6_73 rfl dX6_letter_31 ?_
      refine g_iload_n 34 O dX6_letter_34 rfl 1 rfl ?_
      refine g_i2b 35 O dX6_letter_35 ?_
      refine g_si (p0) (pb8 (ite_t h8)) ?_
      refine g_bast 36 O (((mw, msd, mn, mon, mhn, mrd, mtn, mad, mpn), (se, wo, jf, ow, oj, kf, ff, vf, cf, tf, upd pb pn p0), (fat, whl, nw, nwd, njn), (rd, so, vl, jg), tko, (sdn, hh_), (ik, kw, kh, kr, kt, kc, ko))) 11 pn rfl (hpn) (by omega) (by decide) (pb9 (ite_t h8)) rfl dX6_letter_36 ?_
      refine g_aload_n 37 O dX6_letter_37 rfl 0 rfl ?_
      refine g_dup 38 O dX6_letter_38 rfl ?_
      refine g_get 39 O (v := .int mpn) inX6 0 rfl rfl 18 (by decide) kf_X6_73 rfl dX6_letter_39 ?_
      refine g_iconst 42 O (v := 1) dX6_letter_42 (by decide) ?_
      refine g_iadd 43 O dX6_letter_43 ?_
      refine g_si (nI (pn + 1)) (by rw [hpn]; exact nI_1 pn) ?_
      refine g_put 44 O inX6 tyX6_ok nmX6 (((mw, msd, mn, mon, mhn, mrd, mtn, mad, nI (pn + 1)), (se, wo, jf, ow, oj, kf, ff, vf, cf, tf, upd pb pn p0), (fat, whl, nw, nwd, njn), (rd, so, vl, jg), tko, (sdn, hh_), (ik, kw, kh, kr, kt, kc, ko))) 0 rfl rfl 18 (by decide) kf_X6_73 rfl (rfl) (rfl) (Nat.le_of_ble_eq_true rfl) rfl dX6_letter_44 ?_
      refine g_aload_n 47 O dX6_letter_47 rfl 0 rfl ?_
      refine g_get 48 O (v := .int (nI (pn + 1))) inX6 0 rfl rfl 18 (by decide) kf_X6_73 rfl dX6_letter_48 ?_
      exact g_iret 51 O dX6_letter_51 (by rw [hP0, A_letter, if_pos (ite_t h8), if_pos e14, NS_letter, N_letter, if_pos ⟨ite_t h8, e14⟩]; exact ⟨_, rfl, rfl, ⟨⟨hwn, hwn0⟩, hrn, hsn, ⟨had, had0⟩, ⟨rfl, e14, fun k hk => pg_add (ite_t h8) hpb hk⟩, hz, ⟨hw, hy⟩, ⟨ho, hyo⟩, hh, ht, hik, hkp⟩⟩)
    · -- not taken
      have e14 : pn = 14 := (nI_eq (b := 14) (by omega) (by decide)).mp h20
      refine g_bipush 23 O (v := (-104)) dX6_letter_23 (by decide) ?_
      exact g_iret 25 O dX6_letter_25 (by rw [hP0, A_letter, if_pos (ite_t h8), if_neg (by omega), NS_letter, N_letter, if_neg (fun q => by have := q.2; simp only at this; omega)]; exact ⟨_, rfl, rfl, hS9⟩)
  · -- not taken
    refine g_bipush 11 O (v := (-102)) dX6_letter_11 (by decide) ?_
    exact g_iret 13 O dX6_letter_13 (by rw [hP0, A_letter, if_neg (ite_f h8), NS_letter, N_letter, if_neg (fun q => ite_f h8 q.1)]; exact ⟨_, rfl, rfl, hS9⟩)

set_option maxRecDepth 100000 in
set_option maxHeartbeats 4000000 in
theorem c_X6_blank (l : Launch) (E : Ev) (a : Nat → Nat) (mw msd mn mon mhn mrd mtn mad mpn : Int32) (se wo jf ow oj kf ff vf cf tf pb : Nat → Int32) (fat whl nw : Int32) (nwd njn : Nat → Int32) (rd : Int32) (so vl : Nat → Int64) (jg : Nat → Int32) (tko : Nat → Int32) (sdn hh_ : Int64) (ik kw kh kr kt : Int32) (kc ko : Nat → Int32) (wn : Nat) (rn sn0 : Int32) (adn pn : Nat) (pc : Nat → Int32) (z : Nat → Nat) (y o : Sy) (hr : Hr) (tl : Tl) (ib : Bool) (iw : Nat) (ir : Int32) (ih : Hr) (it : Tl) (hS : RMc mw msd mn mon mhn mrd mtn mad mpn se wo jf ow oj kf ff vf cf tf pb ik kw kh kr kt kc ko wn rn sn0 adn pn pc z y o hr tl ib iw ir ih it) : Ctr l yX6_blank cX6_blank 2 (some .int) 0 0 E (wM E a) [.ref (a 0)] (((mw, msd, mn, mon, mhn, mrd, mtn, mad, mpn), (se, wo, jf, ow, oj, kf, ff, vf, cf, tf, pb), (fat, whl, nw, nwd, njn), (rd, so, vl, jg), tko, (sdn, hh_), (ik, kw, kh, kr, kt, kc, ko))) (pI (fun r x => r = nI pn ∧ RM x (NS_blank ((wn, rn, sn0, adn), (pn, pc), z, y, o, hr, tl, ib, iw, ir, ih, it)))) := by
  refine Ctr.of' (by decide +kernel) (Nat.le_of_ble_eq_true rfl) (fun X P0 hP0 O => ?_)
  refine g_sub [0] (lv' := [(0, .ref (a 0))]) rfl ?_
  have hS9 := hS
  obtain ⟨⟨hwn, hwn0⟩, hrn, hsn, ⟨had, had0⟩, ⟨hpn, hpn0, hpb⟩, hz, ⟨hw, hy⟩, ⟨ho, hyo⟩, hh, ht, hik, hkp⟩ := hS
  refine g_aload_n 0 O dX6_blank_0 rfl 0 rfl ?_
  refine g_get 1 O (v := .int mpn) inX6 0 rfl rfl 18 (by decide) kf_X6_73 rfl dX6_blank_1 ?_
  refine g_istore_n 4 O (lv' := [(1, .int mpn), (0, .ref (a 0))]) dX6_blank_4 rfl (by decide) rfl ?_
  refine g_aload_n 5 O dX6_blank_5 rfl 1 rfl ?_
  refine g_iconst 6 O (v := 0) dX6_blank_6 (by decide) ?_
  refine g_put 7 O inX6 tyX6_ok nmX6 (((mw, msd, mn, mon, mhn, mrd, mtn, mad, 0), (se, wo, jf, ow, oj, kf, ff, vf, cf, tf, pb), (fat, whl, nw, nwd, njn), (rd, so, vl, jg), tko, (sdn, hh_), (ik, kw, kh, kr, kt, kc, ko))) 0 rfl rfl 18 (by decide) kf_X6_73 rfl (rfl) (rfl) (Nat.le_of_ble_eq_true rfl) rfl dX6_blank_7 ?_
  refine g_iload_n 10 O dX6_blank_10 rfl 0 rfl ?_
  refine g_si (nI pn) (hpn) ?_
  exact g_iret 11 O dX6_blank_11 (by rw [hP0]; exact ⟨_, rfl, rfl, ⟨⟨hwn, hwn0⟩, hrn, hsn, ⟨had, had0⟩, ⟨rfl, Nat.zero_le _, fun k hk => absurd hk (Nat.not_lt_zero _)⟩, hz, ⟨hw, hy⟩, ⟨ho, hyo⟩, hh, ht, hik, hkp⟩⟩)

set_option maxRecDepth 100000 in
set_option maxHeartbeats 4000000 in
theorem c_X6_fault (l : Launch) (E : Ev) (a : Nat → Nat) (mw msd mn mon mhn mrd mtn mad mpn : Int32) (se wo jf ow oj kf ff vf cf tf pb : Nat → Int32) (fat whl nw : Int32) (nwd njn : Nat → Int32) (rd : Int32) (so vl : Nat → Int64) (jg : Nat → Int32) (tko : Nat → Int32) (sdn hh_ : Int64) (ik kw kh kr kt : Int32) (kc ko : Nat → Int32) (p0 : Int32) (wn : Nat) (rn sn0 : Int32) (adn pn : Nat) (pc : Nat → Int32) (z : Nat → Nat) (y o : Sy) (hr : Hr) (tl : Tl) (ib : Bool) (iw : Nat) (ir : Int32) (ih : Hr) (it : Tl) (hS : RMc mw msd mn mon mhn mrd mtn mad mpn se wo jf ow oj kf ff vf cf tf pb ik kw kh kr kt kc ko wn rn sn0 adn pn pc z y o hr tl ib iw ir ih it) : Ctr l yX6_fault cX6_fault 2 (some .int) 3 69 E (wM E a) [.ref (a 0), .int p0] (((mw, msd, mn, mon, mhn, mrd, mtn, mad, mpn), (se, wo, jf, ow, oj, kf, ff, vf, cf, tf, pb), (fat, whl, nw, nwd, njn), (rd, so, vl, jg), tko, (sdn, hh_), (ik, kw, kh, kr, kt, kc, ko))) (pI (fun r x => r = A_fault (pn, pc) p0 ∧ RM x (((wn, rn, sn0, adn), (pn, pc), z, y, o, hr, tl, ib, iw, ir, ih, it)))) := by
  refine Ctr.of' (by decide +kernel) (Nat.le_of_ble_eq_true rfl) (fun X P0 hP0 O => ?_)
  refine g_sub [0, 1] (lv' := [(0, .ref (a 0)), (1, .int p0)]) rfl ?_
  have hS9 := hS
  obtain ⟨⟨hwn, hwn0⟩, hrn, hsn, ⟨had, had0⟩, ⟨hpn, hpn0, hpb⟩, hz, ⟨hw, hy⟩, ⟨ho, hyo⟩, hh, ht, hik, hkp⟩ := hS
  refine g_iload_n 0 O dX6_fault_0 rfl 1 rfl ?_
  refine g_iconst 1 O (v := 0) dX6_fault_1 (by decide) ?_
  refine g_iconst 2 O (v := 1) dX6_fault_2 (by decide) ?_
  refine g_callS 3 O (na := 3) (av := [.int p0, .int 0, .int 1]) (c_X6_within l E _ _ p0 0 1) kl_X6_69 ks_X6_within ki_X6 kc_X6_within (by decide +kernel) rfl (Nat.le_of_ble_eq_true rfl) (Nat.le_of_ble_eq_true rfl) (fun _ h => h) (fun s => s) (fun _ _ _ _ h => h) rfl (Nat.le_of_ble_eq_true rfl) dX6_fault_3 (fun v9 s9 hv9 => ?_)
  obtain ⟨rfl, rfl⟩ := hv9
  refine g_if_ne 6 O 12 dX6_fault_6 (by decide) (fun h6 => ?_) (fun h6 => ?_)
  · -- taken
    refine g_iload_n 12 O dX6_fault_12 rfl 1 rfl ?_
    refine g_if_ne 13 O 23 dX6_fault_13 (by decide) (fun h13 => ?_) (fun h13 => ?_)
    · -- taken
      refine g_aload_n 23 O dX6_fault_23 rfl 0 rfl ?_
      refine g_callV 24 O (na := 0) (av := []) (c_X6_readSenses l E a mw msd mn mon mhn mrd mtn mad mpn se wo jf ow oj kf ff vf cf tf pb fat whl nw nwd njn rd so vl jg tko sdn hh_ ik kw kh kr kt kc ko pn pc hpn hpn0 (fun k hk => (hpb k hk).1)) kl_X6_94 km_X6_readSenses kv_X6_readSenses ki_X6 kc_X6_readSenses (by decide +kernel) rfl (Nat.le_of_ble_eq_true rfl) (Nat.le_of_ble_eq_true rfl) (fun _ h => h) 0 rfl rfl (fun s => s) (fun _ _ _ _ h => h) rfl (Nat.le_of_ble_eq_true rfl) dX6_fault_24 (fun v9 s9 hv9 => ?_)
      obtain ⟨rfl, rfl⟩ := hv9
      refine g_aload_n 27 O dX6_fault_27 rfl 0 rfl ?_
      refine g_get 28 O (v := .int (nI (fsen pc pn))) inX6 0 rfl rfl 20 (by decide) kf_X6_84 rfl dX6_fault_28 ?_
      exact g_iret 31 O dX6_fault_31 (by rw [hP0, A_fault, if_neg h13, if_pos ((ok1_iff.mp (ite_t h6)).resolve_left h13)]; exact ⟨_, rfl, rfl, hS9⟩)
    · -- not taken
      refine g_aload_n 16 O dX6_fault_16 rfl 0 rfl ?_
      refine g_callV 17 O (na := 0) (av := []) (c_X6_readSaying l E a mw msd mn mon mhn mrd mtn mad mpn se wo jf ow oj kf ff vf cf tf pb fat whl nw nwd njn rd so vl jg tko sdn hh_ ik kw kh kr kt kc ko pn pc hpn hpn0 (fun k hk => (hpb k hk).1)) kl_X6_91 km_X6_readSaying kv_X6_readSaying ki_X6 kc_X6_readSaying (by decide +kernel) rfl (Nat.le_of_ble_eq_true rfl) (Nat.le_of_ble_eq_true rfl) (fun _ h => h) 0 rfl rfl (fun s => s) (fun _ _ _ _ h => h) rfl (Nat.le_of_ble_eq_true rfl) dX6_fault_17 (fun v9 s9 hv9 => ?_)
      obtain ⟨rfl, nwd', njn', n9, rfl, hns⟩ := hv9
      refine g_goto 20 O 27 dX6_fault_20 (by decide) ?_
      refine g_aload_n 27 O dX6_fault_27 rfl 0 rfl ?_
      refine g_get 28 O (v := .int (nI (fsay pc pn))) inX6 0 rfl rfl 20 (by decide) kf_X6_84 rfl dX6_fault_28 ?_
      exact g_iret 31 O dX6_fault_31 (by rw [hP0, A_fault, if_pos h13]; exact ⟨_, rfl, rfl, hS9⟩)
  · -- not taken
    refine g_bipush 9 O (v := (-102)) dX6_fault_9 (by decide) ?_
    exact g_iret 11 O dX6_fault_11 (by rw [hP0, A_fault, if_neg (fun e => ite_f h6 (by rw [e]; decide)), if_neg (fun e => ite_f h6 (by rw [e]; decide))]; exact ⟨_, rfl, rfl, hS9⟩)

theorem cp_1 {a b x y : Nat → Int32} {k : Nat} (h1 : ∀ i, i < k → a i = x i ∧ b i = y i) (h2 : ∀ i, k ≤ i → b i = x i) : ∀ i, i < k + 1 → upd a k (b k) i = x i ∧ upd b k (y k) i = y i := by
  intro i hi
  by_cases e : i = k
  · rw [e, upd_s, upd_s]; exact ⟨h2 k (Nat.le_refl _), rfl⟩
  · rw [upd_n _ _ e, upd_n _ _ e]; exact h1 i (by omega)
theorem cp_2 {b x y : Nat → Int32} {k : Nat} (h2 : ∀ i, k ≤ i → b i = x i) : ∀ i, k + 1 ≤ i → upd b k (y k) i = x i := by
  intro i hi
  rw [upd_n _ _ (by omega)]; exact h2 i (by omega)
theorem YM_o {w j w1 j1 : Nat → Int32} {y : Sy} (h : YM w j y) (hw : ∀ i, i < 4 → w1 i = w i) (hj : ∀ i, i < 3 → j1 i = j i) : YM w1 j1 y :=
  ⟨h.1, fun k hk => by rw [hw k (by have := h.1; omega)]; exact h.2.1 k hk, fun k hk => by rw [hj k (by have := h.1; omega)]; exact h.2.2 k hk⟩
theorem YM_n {cs w j w1 j1 : Nat → Int32} {n : Nat} (hs : isSay cs n = true) (h : PRW cs n (pr cs n).2.1 2 w j) (hw : ∀ i, i < 4 → w1 i = w i) (hj : ∀ i, i < 3 → j1 i = j i) : YM w1 j1 (pr cs n).2 := by
  have h4 : (pr cs n).2.1 ≤ 4 := by
    obtain ⟨m, hm⟩ := isSay_iff.mp hs
    have h1 := (pr_rs hm).2
    have h2 := rs_st hm
    simp only at h1 h2
    omega
  refine ⟨h4, fun k hk => ?_, fun k hk => ?_⟩
  · rw [hw k (by omega)]; exact h.1 k hk
  · rw [hj k (by omega)]; exact h.2 k (Or.inl hk)

set_option maxRecDepth 100000 in
set_option maxHeartbeats 4000000 in
theorem c_X6_say (l : Launch) (E : Ev) (a : Nat → Nat) (mw msd mn mon mhn mrd mtn mad mpn : Int32) (se wo jf ow oj kf ff vf cf tf pb : Nat → Int32) (fat whl nw : Int32) (nwd njn : Nat → Int32) (rd : Int32) (so vl : Nat → Int64) (jg : Nat → Int32) (tko : Nat → Int32) (sdn hh_ : Int64) (ik kw kh kr kt : Int32) (kc ko : Nat → Int32) (wn : Nat) (rn sn0 : Int32) (adn pn : Nat) (pc : Nat → Int32) (z : Nat → Nat) (y o : Sy) (hr : Hr) (tl : Tl) (ib : Bool) (iw : Nat) (ir : Int32) (ih : Hr) (it : Tl) (hS : RMc mw msd mn mon mhn mrd mtn mad mpn se wo jf ow oj kf ff vf cf tf pb ik kw kh kr kt kc ko wn rn sn0 adn pn pc z y o hr tl ib iw ir ih it) : Ctr l yX6_say cX6_say 2 (some .int) 4 115 E (wM E a) [.ref (a 0)] (((mw, msd, mn, mon, mhn, mrd, mtn, mad, mpn), (se, wo, jf, ow, oj, kf, ff, vf, cf, tf, pb), (fat, whl, nw, nwd, njn), (rd, so, vl, jg), tko, (sdn, hh_), (ik, kw, kh, kr, kt, kc, ko))) (pI (fun r x => r = A_say (pn, pc) ∧ RM x (NS_say ((wn, rn, sn0, adn), (pn, pc), z, y, o, hr, tl, ib, iw, ir, ih, it)))) := by
  refine Ctr.of' (by decide +kernel) (Nat.le_of_ble_eq_true rfl) (fun X P0 hP0 O => ?_)
  refine g_sub [0] (lv' := [(0, .ref (a 0))]) rfl ?_
  have hS9 := hS
  obtain ⟨⟨hwn, hwn0⟩, hrn, hsn, ⟨had, had0⟩, ⟨hpn, hpn0, hpb⟩, hz, ⟨hw, hy⟩, ⟨ho, hyo⟩, hh, ht, hik, hkp⟩ := hS
  refine g_aload_n 0 O dX6_say_0 rfl 0 rfl ?_
  refine g_callV 1 O (na := 0) (av := []) (c_X6_readSaying l E a mw msd mn mon mhn mrd mtn mad mpn se wo jf ow oj kf ff vf cf tf pb fat whl nw nwd njn rd so vl jg tko sdn hh_ ik kw kh kr kt kc ko pn pc hpn hpn0 (fun k hk => (hpb k hk).1)) kl_X6_91 km_X6_readSaying kv_X6_readSaying ki_X6 kc_X6_readSaying (by decide +kernel) rfl (Nat.le_of_ble_eq_true rfl) (Nat.le_of_ble_eq_true rfl) (fun _ h => h) 0 rfl rfl (fun s => s) (fun _ _ _ _ h => h) rfl (Nat.le_of_ble_eq_true rfl) dX6_say_1 (fun v9 s9 hv9 => ?_)
  obtain ⟨rfl, nwd', njn', n9, rfl, hns⟩ := hv9
  refine g_aload_n 4 O dX6_say_4 rfl 0 rfl ?_
  refine g_get 5 O (v := .int (bi (isSay pc pn))) inX6 0 rfl rfl 21 (by decide) kf_X6_87 rfl dX6_say_5 ?_
  refine g_if_ne 8 O 14 dX6_say_8 (by decide) (fun h8 => ?_) (fun h8 => ?_)
  · -- taken
    have hs1 := bi_t h8
    obtain ⟨e9, hprw⟩ := hns hs1
    subst e9
    refine g_aload_n 14 O dX6_say_14 rfl 0 rfl ?_
    refine g_aload_n 15 O dX6_say_15 rfl 0 rfl ?_
    refine g_get 16 O (v := .int mn) inX6 0 rfl rfl 3 (by decide) kf_X6_97 rfl dX6_say_16 ?_
    refine g_put 19 O inX6 tyX6_ok nmX6 (((mw, msd, mn, mn, mhn, mrd, mtn, mad, mpn), (se, wo, jf, ow, oj, kf, ff, vf, cf, tf, pb), (nI (fsay pc pn), bi (isSay pc pn), nI (pr pc pn).2.1, nwd', njn'), (rd, so, vl, jg), tko, (sdn, hh_), (ik, kw, kh, kr, kt, kc, ko))) 0 rfl rfl 6 (by decide) kf_X6_100 rfl (rfl) (rfl) (Nat.le_of_ble_eq_true rfl) rfl dX6_say_19 ?_
    refine g_aload_n 22 O dX6_say_22 rfl 0 rfl ?_
    refine g_aload_n 23 O dX6_say_23 rfl 0 rfl ?_
    refine g_get 24 O (v := .int (nI (pr pc pn).2.1)) inX6 0 rfl rfl 22 (by decide) kf_X6_77 rfl dX6_say_24 ?_
    refine g_put 27 O inX6 tyX6_ok nmX6 (((mw, msd, nI (pr pc pn).2.1, mn, mhn, mrd, mtn, mad, mpn), (se, wo, jf, ow, oj, kf, ff, vf, cf, tf, pb), (nI (fsay pc pn), bi (isSay pc pn), nI (pr pc pn).2.1, nwd', njn'), (rd, so, vl, jg), tko, (sdn, hh_), (ik, kw, kh, kr, kt, kc, ko))) 0 rfl rfl 3 (by decide) kf_X6_97 rfl (rfl) (rfl) (Nat.le_of_ble_eq_true rfl) rfl dX6_say_27 ?_
    refine g_iconst 30 O (v := 0) dX6_say_30 (by decide) ?_
    refine g_istore_n 31 O (lv' := [(1, .int 0), (0, .ref (a 0))]) dX6_say_31 rfl (by decide) rfl ?_
    refine g_sub [0, 1] (lv' := [(1, .int 0), (0, .ref (a 0))]) rfl ?_
    have L32 : ∀ (fuel : Nat) (k : Nat) (ow1 wo1 : Nat → Int32) (hk : k ≤ 4) (hw1 : ∀ i, i < k → ow1 i = wo i ∧ wo1 i = nwd' i) (hw2 : ∀ i, k ≤ i → wo1 i = wo i), 4 - k < fuel → G l E (wM E a) P0 X 2 (((mw, msd, nI (pr pc pn).2.1, mn, mhn, mrd, mtn, mad, mpn), (se, wo1, jf, ow1, oj, kf, ff, vf, cf, tf, pb), (nI (fsay pc pn), bi (isSay pc pn), nI (pr pc pn).2.1, nwd', njn'), (rd, so, vl, jg), tko, (sdn, hh_), (ik, kw, kh, kr, kt, kc, ko))) 32 [(1, .int (nI k)), (0, .ref (a 0))] [] := by
      intro fuel
      induction fuel with
      | zero => intro k ow1 wo1 hk hw1 hw2 hfu; exact absurd hfu (Nat.not_lt_zero _)
      | succ fuel ih32 =>
        intro k ow1 wo1 hk hw1 hw2 hfu
        refine g_iload_n 32 O dX6_say_32 rfl 0 rfl ?_
        refine g_iconst 33 O (v := 4) dX6_say_33 (by decide) ?_
        refine g_icmp_ge 34 O 67 dX6_say_34 (by decide) (fun h34 => ?_) (fun h34 => ?_)
        · -- taken
          have e : k = 4 := by have := ge_of_le (n := 4) (by omega) (by decide) h34; omega
          subst e
          refine g_iconst 67 O (v := 0) dX6_say_67 (by decide) ?_
          refine g_istore_n 68 O (lv' := [(1, .int 0), (0, .ref (a 0))]) dX6_say_68 rfl (by decide) rfl ?_
          refine g_sub [0, 1] (lv' := [(1, .int 0), (0, .ref (a 0))]) rfl ?_
          have L69 : ∀ (fuel : Nat) (k : Nat) (oj1 jf1 : Nat → Int32) (hk : k ≤ 3) (hj1 : ∀ i, i < k → oj1 i = jf i ∧ jf1 i = njn' i) (hj2 : ∀ i, k ≤ i → jf1 i = jf i), 3 - k < fuel → G l E (wM E a) P0 X 2 (((mw, msd, nI (pr pc pn).2.1, mn, mhn, mrd, mtn, mad, mpn), (se, wo1, jf1, ow1, oj1, kf, ff, vf, cf, tf, pb), (nI (fsay pc pn), bi (isSay pc pn), nI (pr pc pn).2.1, nwd', njn'), (rd, so, vl, jg), tko, (sdn, hh_), (ik, kw, kh, kr, kt, kc, ko))) 69 [(1, .int (nI k)), (0, .ref (a 0))] [] := by
            intro fuel
            induction fuel with
            | zero => intro k oj1 jf1 hk hj1 hj2 hfu; exact absurd hfu (Nat.not_lt_zero _)
            | succ fuel ih69 =>
              intro k oj1 jf1 hk hj1 hj2 hfu
              refine g_iload_n 69 O dX6_say_69 rfl 0 rfl ?_
              refine g_iconst 70 O (v := 3) dX6_say_70 (by decide) ?_
              refine g_icmp_ge 71 O 104 dX6_say_71 (by decide) (fun h71 => ?_) (fun h71 => ?_)
              · -- taken
                have e : k = 3 := by have := ge_of_le (n := 3) (by omega) (by decide) h71; omega
                subst e
                have hy1 := YM_n hs1 hprw (fun i hi => (hw1 i hi).2) (fun i hi => (hj1 i hi).2)
                have ho1 := YM_o hy (fun i hi => (hw1 i hi).1) (fun i hi => (hj1 i hi).1)
                refine g_aload_n 104 O dX6_say_104 rfl 1 rfl ?_
                refine g_dup 105 O dX6_say_105 rfl ?_
                refine g_get 106 O (v := .int msd) inX6 0 rfl rfl 1 (by decide) kf_X6_103 rfl dX6_say_106 ?_
                refine g_iconst 109 O (v := 1) dX6_say_109 (by decide) ?_
                refine g_iadd 110 O dX6_say_110 ?_
                refine g_put 111 O inX6 tyX6_ok nmX6 (((mw, msd + 1, nI (pr pc pn).2.1, mn, mhn, mrd, mtn, mad, mpn), (se, wo1, jf1, ow1, oj1, kf, ff, vf, cf, tf, pb), (nI (fsay pc pn), bi (isSay pc pn), nI (pr pc pn).2.1, nwd', njn'), (rd, so, vl, jg), tko, (sdn, hh_), (ik, kw, kh, kr, kt, kc, ko))) 0 rfl rfl 1 (by decide) kf_X6_103 rfl (rfl) (rfl) (Nat.le_of_ble_eq_true rfl) rfl dX6_say_111 ?_
                refine g_aload_n 114 O dX6_say_114 rfl 1 rfl ?_
                refine g_iconst 115 O (v := 0) dX6_say_115 (by decide) ?_
                refine g_put 116 O inX6 tyX6_ok nmX6 (((mw, msd + 1, nI (pr pc pn).2.1, mn, mhn, mrd, mtn, mad, 0), (se, wo1, jf1, ow1, oj1, kf, ff, vf, cf, tf, pb), (nI (fsay pc pn), bi (isSay pc pn), nI (pr pc pn).2.1, nwd', njn'), (rd, so, vl, jg), tko, (sdn, hh_), (ik, kw, kh, kr, kt, kc, ko))) 0 rfl rfl 18 (by decide) kf_X6_73 rfl (rfl) (rfl) (Nat.le_of_ble_eq_true rfl) rfl dX6_say_116 ?_
                refine g_aload_n 119 O dX6_say_119 rfl 1 rfl ?_
                refine g_aload_n 120 O dX6_say_120 rfl 1 rfl ?_
                refine g_get 121 O (v := .int (nI (pr pc pn).2.1)) inX6 0 rfl rfl 3 (by decide) kf_X6_97 rfl dX6_say_121 ?_
                refine g_iconst 124 O (v := 0) dX6_say_124 (by decide) ?_
                refine g_callV 125 O (na := 2) (av := [.int (nI (pr pc pn).2.1), .int 0]) (c_X6_lay l E a mw (msd + 1) (nI (pr pc pn).2.1) mn mhn mrd mtn mad 0 se wo1 jf1 ow1 oj1 kf ff vf cf tf pb (nI (fsay pc pn)) (bi (isSay pc pn)) (nI (pr pc pn).2.1) nwd' njn' rd so vl jg tko sdn hh_ ik kw kh kr kt kc ko (nI (pr pc pn).2.1) 0 (pr pc pn).2 z (pr pc pn).2.1 rfl rfl (YM0 hy1) hz) kl_X6_106 km_X6_lay kv_X6_lay ki_X6 kc_X6_lay (by decide +kernel) rfl (Nat.le_of_ble_eq_true rfl) (Nat.le_of_ble_eq_true rfl) (fun _ h => h) 0 rfl rfl (fun s => s) (fun _ _ _ _ h => h) rfl (Nat.le_of_ble_eq_true rfl) dX6_say_125 (fun v9 s9 hv9 => ?_)
                obtain ⟨rfl, so', vl', jg', rfl, hso⟩ := hv9
                refine g_aload_n 128 O dX6_say_128 rfl 1 rfl ?_
                refine g_get 129 O (v := .int (nI (NR (pr pc pn).2))) inX6 0 rfl rfl 25 (by decide) kf_X6_110 rfl dX6_say_129 ?_
                exact g_iret 132 O dX6_say_132 (by rw [hP0, A_say, NS_say, if_pos (show isSay pc pn = true from hs1), if_pos (show isSay pc pn = true from hs1)]; exact ⟨_, rfl, rfl, ⟨⟨hwn, hwn0⟩, hrn, by rw [hsn], ⟨had, had0⟩, ⟨rfl, Nat.zero_le _, fun k hk => absurd hk (Nat.not_lt_zero _)⟩, hz, ⟨rfl, hy1⟩, ⟨hw, ho1⟩, hh, ht, hik, hkp⟩⟩)
              · -- not taken
                have hlt : k < 3 := lt_of_nge (n := 3) (by omega) h71
                refine g_aload_n 74 O dX6_say_74 rfl 1 rfl ?_
                refine g_get 75 O (v := .ref (a 5)) inX6 0 rfl rfl 8 (by decide) kf_X6_22 rfl dX6_say_75 ?_
                refine g_iload_n 78 O dX6_say_78 rfl 0 rfl ?_
                refine g_aload_n 79 O dX6_say_79 rfl 1 rfl ?_
                refine g_get 80 O (v := .ref (a 3)) inX6 0 rfl rfl 5 (by decide) kf_X6_16 rfl dX6_say_80 ?_
                refine g_iload_n 83 O dX6_say_83 rfl 0 rfl ?_
                refine g_iald 84 O 3 k rfl (rfl) (by omega) (by decide) dX6_say_84 ?_
                refine g_iast 85 O (((mw, msd, nI (pr pc pn).2.1, mn, mhn, mrd, mtn, mad, mpn), (se, wo1, jf1, ow1, upd oj1 k (jf1 k), kf, ff, vf, cf, tf, pb), (nI (fsay pc pn), bi (isSay pc pn), nI (pr pc pn).2.1, nwd', njn'), (rd, so, vl, jg), tko, (sdn, hh_), (ik, kw, kh, kr, kt, kc, ko))) 5 k rfl (rfl) (by omega) (by decide) rfl dX6_say_85 ?_
                refine g_aload_n 86 O dX6_say_86 rfl 1 rfl ?_
                refine g_get 87 O (v := .ref (a 3)) inX6 0 rfl rfl 5 (by decide) kf_X6_16 rfl dX6_say_87 ?_
                refine g_iload_n 90 O dX6_say_90 rfl 0 rfl ?_
                refine g_aload_n 91 O dX6_say_91 rfl 1 rfl ?_
                refine g_get 92 O (v := .ref (a 13)) inX6 0 rfl rfl 24 (by decide) kf_X6_47 rfl dX6_say_92 ?_
                refine g_iload_n 95 O dX6_say_95 rfl 0 rfl ?_
                refine g_iald 96 O 13 k rfl (rfl) (by omega) (by decide) dX6_say_96 ?_
                refine g_iast 97 O (((mw, msd, nI (pr pc pn).2.1, mn, mhn, mrd, mtn, mad, mpn), (se, wo1, upd jf1 k (njn' k), ow1, upd oj1 k (jf1 k), kf, ff, vf, cf, tf, pb), (nI (fsay pc pn), bi (isSay pc pn), nI (pr pc pn).2.1, nwd', njn'), (rd, so, vl, jg), tko, (sdn, hh_), (ik, kw, kh, kr, kt, kc, ko))) 3 k rfl (rfl) (by omega) (by decide) rfl dX6_say_97 ?_
                refine g_iinc 98 O (v := nI (k + 1)) (q := 0) (lv' := [(1, .int (nI (k + 1))), (0, .ref (a 0))]) dX6_say_98 rfl (nI_1 k) (by decide) rfl ?_
                refine g_goto 101 O 69 dX6_say_101 (by decide) ?_
                refine g_sub [0, 1] (lv' := [(1, .int (nI (k + 1))), (0, .ref (a 0))]) rfl ?_
                exact ih69 (k + 1) (upd oj1 k (jf1 k)) (upd jf1 k (njn' k)) (by omega) (cp_1 hj1 hj2) (cp_2 hj2) (by omega)
          exact L69 _ 0 oj jf (Nat.zero_le _) (fun i h => absurd h (Nat.not_lt_zero _)) (fun i h => rfl) (Nat.lt_succ_self _)
        · -- not taken
          have hlt : k < 4 := lt_of_nge (n := 4) (by omega) h34
          refine g_aload_n 37 O dX6_say_37 rfl 1 rfl ?_
          refine g_get 38 O (v := .ref (a 4)) inX6 0 rfl rfl 7 (by decide) kf_X6_19 rfl dX6_say_38 ?_
          refine g_iload_n 41 O dX6_say_41 rfl 0 rfl ?_
          refine g_aload_n 42 O dX6_say_42 rfl 1 rfl ?_
          refine g_get 43 O (v := .ref (a 2)) inX6 0 rfl rfl 4 (by decide) kf_X6_13 rfl dX6_say_43 ?_
          refine g_iload_n 46 O dX6_say_46 rfl 0 rfl ?_
          refine g_iald 47 O 2 k rfl (rfl) (by omega) (by decide) dX6_say_47 ?_
          refine g_iast 48 O (((mw, msd, nI (pr pc pn).2.1, mn, mhn, mrd, mtn, mad, mpn), (se, wo1, jf, upd ow1 k (wo1 k), oj, kf, ff, vf, cf, tf, pb), (nI (fsay pc pn), bi (isSay pc pn), nI (pr pc pn).2.1, nwd', njn'), (rd, so, vl, jg), tko, (sdn, hh_), (ik, kw, kh, kr, kt, kc, ko))) 4 k rfl (rfl) (by omega) (by decide) rfl dX6_say_48 ?_
          refine g_aload_n 49 O dX6_say_49 rfl 1 rfl ?_
          refine g_get 50 O (v := .ref (a 2)) inX6 0 rfl rfl 4 (by decide) kf_X6_13 rfl dX6_say_50 ?_
          refine g_iload_n 53 O dX6_say_53 rfl 0 rfl ?_
          refine g_aload_n 54 O dX6_say_54 rfl 1 rfl ?_
          refine g_get 55 O (v := .ref (a 12)) inX6 0 rfl rfl 23 (by decide) kf_X6_44 rfl dX6_say_55 ?_
          refine g_iload_n 58 O dX6_say_58 rfl 0 rfl ?_
          refine g_iald 59 O 12 k rfl (rfl) (by omega) (by decide) dX6_say_59 ?_
          refine g_iast 60 O (((mw, msd, nI (pr pc pn).2.1, mn, mhn, mrd, mtn, mad, mpn), (se, upd wo1 k (nwd' k), jf, upd ow1 k (wo1 k), oj, kf, ff, vf, cf, tf, pb), (nI (fsay pc pn), bi (isSay pc pn), nI (pr pc pn).2.1, nwd', njn'), (rd, so, vl, jg), tko, (sdn, hh_), (ik, kw, kh, kr, kt, kc, ko))) 2 k rfl (rfl) (by omega) (by decide) rfl dX6_say_60 ?_
          refine g_iinc 61 O (v := nI (k + 1)) (q := 0) (lv' := [(1, .int (nI (k + 1))), (0, .ref (a 0))]) dX6_say_61 rfl (nI_1 k) (by decide) rfl ?_
          refine g_goto 64 O 32 dX6_say_64 (by decide) ?_
          refine g_sub [0, 1] (lv' := [(1, .int (nI (k + 1))), (0, .ref (a 0))]) rfl ?_
          exact ih32 (k + 1) (upd ow1 k (wo1 k)) (upd wo1 k (nwd' k)) (by omega) (cp_1 hw1 hw2) (cp_2 hw2) (by omega)
    exact L32 _ 0 ow wo (Nat.zero_le _) (fun i h => absurd h (Nat.not_lt_zero _)) (fun i h => rfl) (Nat.lt_succ_self _)
  · -- not taken
    have hs0 := bi_f h8
    refine g_bipush 11 O (v := (-103)) dX6_say_11 (by decide) ?_
    exact g_iret 13 O dX6_say_13 (by rw [hP0, A_say, NS_say, if_neg (show ¬ isSay pc pn = true from by rw [hs0]; decide), if_neg (show ¬ isSay pc pn = true from by rw [hs0]; decide)]; exact ⟨_, rfl, rfl, hS9⟩)

set_option maxRecDepth 100000 in
set_option maxHeartbeats 4000000 in
theorem c_X6_senses (l : Launch) (E : Ev) (a : Nat → Nat) (mw msd mn mon mhn mrd mtn mad mpn : Int32) (se wo jf ow oj kf ff vf cf tf pb : Nat → Int32) (fat whl nw : Int32) (nwd njn : Nat → Int32) (rd : Int32) (so vl : Nat → Int64) (jg : Nat → Int32) (tko : Nat → Int32) (sdn hh_ : Int64) (ik kw kh kr kt : Int32) (kc ko : Nat → Int32) (wn : Nat) (rn sn0 : Int32) (adn pn : Nat) (pc : Nat → Int32) (z : Nat → Nat) (y o : Sy) (hr : Hr) (tl : Tl) (ib : Bool) (iw : Nat) (ir : Int32) (ih : Hr) (it : Tl) (hS : RMc mw msd mn mon mhn mrd mtn mad mpn se wo jf ow oj kf ff vf cf tf pb ik kw kh kr kt kc ko wn rn sn0 adn pn pc z y o hr tl ib iw ir ih it) : Ctr l yX6_senses cX6_senses 3 (some .int) 2 43 E (wM E a) [.ref (a 0)] (((mw, msd, mn, mon, mhn, mrd, mtn, mad, mpn), (se, wo, jf, ow, oj, kf, ff, vf, cf, tf, pb), (fat, whl, nw, nwd, njn), (rd, so, vl, jg), tko, (sdn, hh_), (ik, kw, kh, kr, kt, kc, ko))) (pI (fun r x => r = A_senses (pn, pc) ∧ RM x (NS_senses ((wn, rn, sn0, adn), (pn, pc), z, y, o, hr, tl, ib, iw, ir, ih, it)))) := by
  refine Ctr.of' (by decide +kernel) (Nat.le_of_ble_eq_true rfl) (fun X P0 hP0 O => ?_)
  refine g_sub [0] (lv' := [(0, .ref (a 0))]) rfl ?_
  have hS9 := hS
  obtain ⟨⟨hwn, hwn0⟩, hrn, hsn, ⟨had, had0⟩, ⟨hpn, hpn0, hpb⟩, hz, ⟨hw, hy⟩, ⟨ho, hyo⟩, hh, ht, hik, hkp⟩ := hS
  refine g_aload_n 0 O dX6_senses_0 rfl 0 rfl ?_
  refine g_callV 1 O (na := 0) (av := []) (c_X6_readSenses l E a mw msd mn mon mhn mrd mtn mad mpn se wo jf ow oj kf ff vf cf tf pb fat whl nw nwd njn rd so vl jg tko sdn hh_ ik kw kh kr kt kc ko pn pc hpn hpn0 (fun k hk => (hpb k hk).1)) kl_X6_94 km_X6_readSenses kv_X6_readSenses ki_X6 kc_X6_readSenses (by decide +kernel) rfl (Nat.le_of_ble_eq_true rfl) (Nat.le_of_ble_eq_true rfl) (fun _ h => h) 0 rfl rfl (fun s => s) (fun _ _ _ _ h => h) rfl (Nat.le_of_ble_eq_true rfl) dX6_senses_1 (fun v9 s9 hv9 => ?_)
  obtain ⟨rfl, rfl⟩ := hv9
  refine g_aload_n 4 O dX6_senses_4 rfl 0 rfl ?_
  refine g_get 5 O (v := .int (bi (isSen pc pn))) inX6 0 rfl rfl 21 (by decide) kf_X6_87 rfl dX6_senses_5 ?_
  refine g_if_ne 8 O 14 dX6_senses_8 (by decide) (fun h8 => ?_) (fun h8 => ?_)
  · -- taken
    have hs1 := bi_t h8
    obtain ⟨e6, hz6⟩ := isSen_n hs1
    refine g_iconst 14 O (v := 0) dX6_senses_14 (by decide) ?_
    refine g_istore_n 15 O (lv' := [(1, .int 0), (0, .ref (a 0))]) dX6_senses_15 rfl (by decide) rfl ?_
    refine g_iconst 16 O (v := 0) dX6_senses_16 (by decide) ?_
    refine g_istore_n 17 O (lv' := [(2, .int 0), (1, .int 0), (0, .ref (a 0))]) dX6_senses_17 rfl (by decide) rfl ?_
    refine g_sub [0, 1, 2] (lv' := [(2, .int 0), (1, .int 0), (0, .ref (a 0))]) rfl ?_
    have L18 : ∀ (fuel : Nat) (k : Nat) (se1 : Nat → Int32) (hk : k ≤ 6) (hse : ∀ i, i < k → se1 i = nI (zOf pc i)), 6 - k < fuel → G l E (wM E a) P0 X 3 (((mw, msd, mn, mon, mhn, mrd, mtn, mad, mpn), (se1, wo, jf, ow, oj, kf, ff, vf, cf, tf, pb), (nI (fsen pc pn), bi (isSen pc pn), nw, nwd, njn), (rd, so, vl, jg), tko, (sdn, hh_), (ik, kw, kh, kr, kt, kc, ko))) 18 [(2, .int (nI k)), (1, .int (nI (cn (fun k => decide (¬ zOf pc k = k)) k))), (0, .ref (a 0))] [] := by
      intro fuel
      induction fuel with
      | zero => intro k se1 hk hse hfu; exact absurd hfu (Nat.not_lt_zero _)
      | succ fuel ih18 =>
        intro k se1 hk hse hfu
        refine g_iload_n 18 O dX6_senses_18 rfl 0 rfl ?_
        refine g_bipush 19 O (v := 6) dX6_senses_19 (by decide) ?_
        refine g_icmp_ge 21 O 63 dX6_senses_21 (by decide) (fun h21 => ?_) (fun h21 => ?_)
        · -- taken
          have e : k = 6 := by have := ge_of_le (n := 6) (by omega) (by decide) h21; omega
          subst e
          refine g_aload_n 63 O dX6_senses_63 rfl 2 rfl ?_
          refine g_iconst 64 O (v := 0) dX6_senses_64 (by decide) ?_
          refine g_put 65 O inX6 tyX6_ok nmX6 (((mw, msd, mn, mon, mhn, mrd, mtn, mad, 0), (se1, wo, jf, ow, oj, kf, ff, vf, cf, tf, pb), (nI (fsen pc pn), bi (isSen pc pn), nw, nwd, njn), (rd, so, vl, jg), tko, (sdn, hh_), (ik, kw, kh, kr, kt, kc, ko))) 0 rfl rfl 18 (by decide) kf_X6_73 rfl (rfl) (rfl) (Nat.le_of_ble_eq_true rfl) rfl dX6_senses_65 ?_
          refine g_iload_n 68 O dX6_senses_68 rfl 1 rfl ?_
          exact g_iret 69 O dX6_senses_69 (by rw [hP0, A_senses, NS_senses, if_pos (show isSen pc pn = true from hs1), if_pos (show isSen pc pn = true from hs1)]; exact ⟨_, rfl, rfl, ⟨⟨hwn, hwn0⟩, hrn, hsn, ⟨had, had0⟩, ⟨rfl, Nat.zero_le _, fun k hk => absurd hk (Nat.not_lt_zero _)⟩, fun i hi => ⟨hse i hi, (hz6 i hi).2⟩, ⟨hw, hy⟩, ⟨ho, hyo⟩, hh, ht, hik, hkp⟩⟩)
        · -- not taken
          have hlt : k < 6 := lt_of_nge (n := 6) (by omega) h21
          refine g_aload_n 24 O dX6_senses_24 rfl 2 rfl ?_
          refine g_get 25 O (v := .ref (a 1)) inX6 0 rfl rfl 2 (by decide) kf_X6_7 rfl dX6_senses_25 ?_
          refine g_iload_n 28 O dX6_senses_28 rfl 0 rfl ?_
          refine g_aload_n 29 O dX6_senses_29 rfl 2 rfl ?_
          refine g_get 30 O (v := .ref (a 11)) inX6 0 rfl rfl 19 (by decide) kf_X6_40 rfl dX6_senses_30 ?_
          refine g_iload_n 33 O dX6_senses_33 rfl 0 rfl ?_
          refine g_bald 34 O 11 k rfl (rfl) (by omega) (by decide) dX6_senses_34 ?_
          refine g_si (pc k) ((hpb k (by omega)).1) ?_
          refine g_bipush 35 O (v := 48) dX6_senses_35 (by decide) ?_
          refine g_isub 37 O dX6_senses_37 ?_
          refine g_si (nI (zOf pc k)) ((hz6 k hlt).1) ?_
          refine g_iast 38 O (((mw, msd, mn, mon, mhn, mrd, mtn, mad, mpn), (upd se1 k (nI (zOf pc k)), wo, jf, ow, oj, kf, ff, vf, cf, tf, pb), (nI (fsen pc pn), bi (isSen pc pn), nw, nwd, njn), (rd, so, vl, jg), tko, (sdn, hh_), (ik, kw, kh, kr, kt, kc, ko))) 1 k rfl (rfl) (by omega) (by decide) rfl dX6_senses_38 ?_
          refine g_iload_n 39 O dX6_senses_39 rfl 1 rfl ?_
          refine g_aload_n 40 O dX6_senses_40 rfl 2 rfl ?_
          refine g_get 41 O (v := .ref (a 1)) inX6 0 rfl rfl 2 (by decide) kf_X6_7 rfl dX6_senses_41 ?_
          refine g_iload_n 44 O dX6_senses_44 rfl 0 rfl ?_
          refine g_iald 45 O 1 k rfl (rfl) (by omega) (by decide) dX6_senses_45 ?_
          refine g_si (nI (zOf pc k)) (upd_s _ _ _) ?_
          refine g_iload_n 46 O dX6_senses_46 rfl 0 rfl ?_
          refine g_icmp_ne 47 O 54 dX6_senses_47 (by decide) (fun h47 => ?_) (fun h47 => ?_)
          · -- taken
            refine g_iconst 54 O (v := 1) dX6_senses_54 (by decide) ?_
            refine g_iadd 55 O dX6_senses_55 ?_
            refine g_si (nI (cn (fun k => decide (¬ zOf pc k = k)) (k + 1))) (cn_t (p := (fun k => decide (¬ zOf pc k = k))) (decide_eq_true (fun q => h47 (by rw [q])))) ?_
            refine g_istore_n 56 O (lv' := [(1, .int (nI (cn (fun k => decide (¬ zOf pc k = k)) (k + 1)))), (2, .int (nI k)), (0, .ref (a 0))]) dX6_senses_56 rfl (by decide) rfl ?_
            refine g_iinc 57 O (v := nI (k + 1)) (q := 1) (lv' := [(2, .int (nI (k + 1))), (1, .int (nI (cn (fun k => decide (¬ zOf pc k = k)) (k + 1)))), (0, .ref (a 0))]) dX6_senses_57 rfl (nI_1 k) (by decide) rfl ?_
            refine g_goto 60 O 18 dX6_senses_60 (by decide) ?_
            refine g_sub [0, 1, 2] (lv' := [(2, .int (nI (k + 1))), (1, .int (nI (cn (fun k => decide (¬ zOf pc k = k)) (k + 1)))), (0, .ref (a 0))]) rfl ?_
            exact ih18 (k + 1) (upd se1 k (nI (zOf pc k))) (by omega) (upd_ext (g := fun i => nI (zOf pc i)) hse rfl) (by omega)
          · -- not taken
            refine g_iconst 50 O (v := 0) dX6_senses_50 (by decide) ?_
            refine g_goto 51 O 55 dX6_senses_51 (by decide) ?_
            refine g_iadd 55 O dX6_senses_55 ?_
            refine g_si (nI (cn (fun k => decide (¬ zOf pc k = k)) (k + 1))) (cn_f (p := (fun k => decide (¬ zOf pc k = k))) (decide_eq_false (fun q => q ((nI_eq (by have := (hz6 k hlt).2; omega) (by omega)).mp h47)))) ?_
            refine g_istore_n 56 O (lv' := [(1, .int (nI (cn (fun k => decide (¬ zOf pc k = k)) (k + 1)))), (2, .int (nI k)), (0, .ref (a 0))]) dX6_senses_56 rfl (by decide) rfl ?_
            refine g_iinc 57 O (v := nI (k + 1)) (q := 1) (lv' := [(2, .int (nI (k + 1))), (1, .int (nI (cn (fun k => decide (¬ zOf pc k = k)) (k + 1)))), (0, .ref (a 0))]) dX6_senses_57 rfl (nI_1 k) (by decide) rfl ?_
            refine g_goto 60 O 18 dX6_senses_60 (by decide) ?_
            refine g_sub [0, 1, 2] (lv' := [(2, .int (nI (k + 1))), (1, .int (nI (cn (fun k => decide (¬ zOf pc k = k)) (k + 1)))), (0, .ref (a 0))]) rfl ?_
            exact ih18 (k + 1) (upd se1 k (nI (zOf pc k))) (by omega) (upd_ext (g := fun i => nI (zOf pc i)) hse rfl) (by omega)
    exact L18 _ 0 se (Nat.zero_le _) (fun i h => absurd h (Nat.not_lt_zero _)) (Nat.lt_succ_self _)
  · -- not taken
    have hs0 := bi_f h8
    refine g_bipush 11 O (v := (-103)) dX6_senses_11 (by decide) ?_
    exact g_iret 13 O dX6_senses_13 (by rw [hP0, A_senses, NS_senses, if_neg (show ¬ isSen pc pn = true from by rw [hs0]; decide), if_neg (show ¬ isSen pc pn = true from by rw [hs0]; decide)]; exact ⟨_, rfl, rfl, hS9⟩)

set_option maxRecDepth 100000 in
set_option maxHeartbeats 4000000 in
theorem c_X6_sense (l : Launch) (E : Ev) (a : Nat → Nat) (mw msd mn mon mhn mrd mtn mad mpn : Int32) (se wo jf ow oj kf ff vf cf tf pb : Nat → Int32) (fat whl nw : Int32) (nwd njn : Nat → Int32) (rd : Int32) (so vl : Nat → Int64) (jg : Nat → Int32) (tko : Nat → Int32) (sdn hh_ : Int64) (ik kw kh kr kt : Int32) (kc ko : Nat → Int32) (p0 : Int32) (wn : Nat) (rn sn0 : Int32) (adn pn : Nat) (pc : Nat → Int32) (z : Nat → Nat) (y o : Sy) (hr : Hr) (tl : Tl) (ib : Bool) (iw : Nat) (ir : Int32) (ih : Hr) (it : Tl) (hS : RMc mw msd mn mon mhn mrd mtn mad mpn se wo jf ow oj kf ff vf cf tf pb ik kw kh kr kt kc ko wn rn sn0 adn pn pc z y o hr tl ib iw ir ih it) : Ctr l yX6_sense cX6_sense 2 (some .int) 2 42 E (wM E a) [.ref (a 0), .int p0] (((mw, msd, mn, mon, mhn, mrd, mtn, mad, mpn), (se, wo, jf, ow, oj, kf, ff, vf, cf, tf, pb), (fat, whl, nw, nwd, njn), (rd, so, vl, jg), tko, (sdn, hh_), (ik, kw, kh, kr, kt, kc, ko))) (pI (fun r x => r = A_sense z p0 ∧ RM x (((wn, rn, sn0, adn), (pn, pc), z, y, o, hr, tl, ib, iw, ir, ih, it)))) := by
  refine Ctr.of' (by decide +kernel) (Nat.le_of_ble_eq_true rfl) (fun X P0 hP0 O => ?_)
  refine g_sub [0, 1] (lv' := [(0, .ref (a 0)), (1, .int p0)]) rfl ?_
  have hS9 := hS
  obtain ⟨⟨hwn, hwn0⟩, hrn, hsn, ⟨had, had0⟩, ⟨hpn, hpn0, hpb⟩, hz, ⟨hw, hy⟩, ⟨ho, hyo⟩, hh, ht, hik, hkp⟩ := hS
  refine g_iload_n 0 O dX6_sense_0 rfl 1 rfl ?_
  refine g_callS 1 O (na := 1) (av := [.int p0]) (c_X6_isLetter l E _ _ p0) kl_X6_113 ks_X6_isLetter ki_X6 kc_X6_isLetter (by decide +kernel) rfl (Nat.le_of_ble_eq_true rfl) (Nat.le_of_ble_eq_true rfl) (fun _ h => h) (fun s => s) (fun _ _ _ _ h => h) rfl (Nat.le_of_ble_eq_true rfl) dX6_sense_1 (fun v9 s9 hv9 => ?_)
  obtain ⟨rfl, rfl⟩ := hv9
  refine g_if_eq 4 O 16 dX6_sense_4 (by decide) (fun h4 => ?_) (fun h4 => ?_)
  · -- taken
    refine g_bipush 16 O (v := (-101)) dX6_sense_16 (by decide) ?_
    exact g_iret 18 O dX6_sense_18 (by rw [hP0, A_sense, if_neg (ite_f h4)]; exact ⟨_, rfl, rfl, hS9⟩)
  · -- not taken
    obtain ⟨k, hk0, hk, hkc⟩ := rng_of (n := 6) (by decide) (ite_t h4)
    refine g_aload_n 7 O dX6_sense_7 rfl 0 rfl ?_
    refine g_get 8 O (v := .ref (a 1)) inX6 0 rfl rfl 2 (by decide) kf_X6_7 rfl dX6_sense_8 ?_
    refine g_iload_n 11 O dX6_sense_11 rfl 1 rfl ?_
    refine g_iald 12 O 1 k rfl (hk) (by omega) (by decide) dX6_sense_12 ?_
    refine g_goto 13 O 18 dX6_sense_13 (by decide) ?_
    refine g_si (nI (z k)) ((hz k hk0).1) ?_
    exact g_iret 18 O dX6_sense_18 (by rw [hP0, A_sense, if_pos (ite_t h4), hkc]; exact ⟨_, rfl, rfl, hS9⟩)

set_option maxRecDepth 100000 in
set_option maxHeartbeats 4000000 in
theorem c_X6_reading (l : Launch) (E : Ev) (a : Nat → Nat) (mw msd mn mon mhn mrd mtn mad mpn : Int32) (se wo jf ow oj kf ff vf cf tf pb : Nat → Int32) (fat whl nw : Int32) (nwd njn : Nat → Int32) (rd : Int32) (so vl : Nat → Int64) (jg : Nat → Int32) (tko : Nat → Int32) (sdn hh_ : Int64) (ik kw kh kr kt : Int32) (kc ko : Nat → Int32) (p0 : Int32) (wn : Nat) (rn sn0 : Int32) (adn pn : Nat) (pc : Nat → Int32) (z : Nat → Nat) (y o : Sy) (hr : Hr) (tl : Tl) (ib : Bool) (iw : Nat) (ir : Int32) (ih : Hr) (it : Tl) (hS : RMc mw msd mn mon mhn mrd mtn mad mpn se wo jf ow oj kf ff vf cf tf pb ik kw kh kr kt kc ko wn rn sn0 adn pn pc z y o hr tl ib iw ir ih it) : Ctr l yX6_reading cX6_reading 2 (some .int) 5 136 E (wM E a) [.ref (a 0), .int p0] (((mw, msd, mn, mon, mhn, mrd, mtn, mad, mpn), (se, wo, jf, ow, oj, kf, ff, vf, cf, tf, pb), (fat, whl, nw, nwd, njn), (rd, so, vl, jg), tko, (sdn, hh_), (ik, kw, kh, kr, kt, kc, ko))) (pI (fun r x => r = A_reading z y p0 ∧ RM x (((wn, rn, sn0, adn), (pn, pc), z, y, o, hr, tl, ib, iw, ir, ih, it)))) := by
  refine Ctr.of' (by decide +kernel) (Nat.le_of_ble_eq_true rfl) (fun X P0 hP0 O => ?_)
  refine g_sub [0, 1] (lv' := [(0, .ref (a 0)), (1, .int p0)]) rfl ?_
  have hS9 := hS
  obtain ⟨⟨hwn, hwn0⟩, hrn, hsn, ⟨had, had0⟩, ⟨hpn, hpn0, hpb⟩, hz, ⟨hw, hy⟩, ⟨ho, hyo⟩, hh, ht, hik, hkp⟩ := hS
  refine g_aload_n 0 O dX6_reading_0 rfl 0 rfl ?_
  refine g_iload_n 1 O dX6_reading_1 rfl 1 rfl ?_
  refine g_callV 2 O (na := 1) (av := [.int p0]) (c_X6_isReading l E a mw msd mn mon mhn mrd mtn mad mpn se wo jf ow oj kf ff vf cf tf pb fat whl nw nwd njn rd so vl jg tko sdn hh_ ik kw kh kr kt kc ko p0 y z hw hy hz) kl_X6_148 km_X6_isReading kv_X6_isReading ki_X6 kc_X6_isReading (by decide +kernel) rfl (Nat.le_of_ble_eq_true rfl) (Nat.le_of_ble_eq_true rfl) (fun _ h => h) 0 rfl rfl (fun s => s) (fun _ _ _ _ h => h) rfl (Nat.le_of_ble_eq_true rfl) dX6_reading_2 (fun v9 s9 hv9 => ?_)
  obtain ⟨r9, rfl, rfl, so', vl', jg', rfl, hso⟩ := hv9
  refine g_if_eq 5 O 20 dX6_reading_5 (by decide) (fun h5 => ?_) (fun h5 => ?_)
  · -- taken
    refine g_bipush 20 O (v := (-101)) dX6_reading_20 (by decide) ?_
    exact g_iret 22 O dX6_reading_22 (by rw [hP0, A_reading, if_neg (ite_f h5)]; exact ⟨_, rfl, rfl, hS9⟩)
  · -- not taken
    have hN := NR_le hy.1
    obtain ⟨k, hk0, hk, hkc⟩ := rng_of (by omega) (ite_t h5)
    refine g_aload_n 8 O dX6_reading_8 rfl 0 rfl ?_
    refine g_get 9 O (v := .ref (a 14)) inX6 0 rfl rfl 26 (by decide) kf_X6_50 rfl dX6_reading_9 ?_
    refine g_iload_n 12 O dX6_reading_12 rfl 1 rfl ?_
    refine g_lald 13 O 14 k rfl (hk) (by omega) (by decide) dX6_reading_13 ?_
    refine g_sl (TR z y k) (hso k hk0) ?_
    refine g_callS 14 O (na := 1) (av := [.long (TR z y k)]) (c_X6_size l E _ _ (TR z y k)) kl_X6_151 ks_X6_size ki_X6 kc_X6_size (by decide +kernel) rfl (Nat.le_of_ble_eq_true rfl) (Nat.le_of_ble_eq_true rfl) (fun _ h => h) (fun s => s) (fun _ _ _ _ h => h) rfl (Nat.le_of_ble_eq_true rfl) dX6_reading_14 (fun v9 s9 hv9 => ?_)
    obtain ⟨rfl, rfl⟩ := hv9
    refine g_goto 17 O 22 dX6_reading_17 (by decide) ?_
    exact g_iret 22 O dX6_reading_22 (by rw [hP0, A_reading, if_pos (ite_t h5), hkc]; exact ⟨_, rfl, rfl, hS9⟩)

set_option maxRecDepth 100000 in
set_option maxHeartbeats 4000000 in
theorem c_X6_isSo (l : Launch) (E : Ev) (a : Nat → Nat) (mw msd mn mon mhn mrd mtn mad mpn : Int32) (se wo jf ow oj kf ff vf cf tf pb : Nat → Int32) (fat whl nw : Int32) (nwd njn : Nat → Int32) (rd : Int32) (so vl : Nat → Int64) (jg : Nat → Int32) (tko : Nat → Int32) (sdn hh_ : Int64) (ik kw kh kr kt : Int32) (kc ko : Nat → Int32) (p0 p1 : Int32) (wn : Nat) (rn sn0 : Int32) (adn pn : Nat) (pc : Nat → Int32) (z : Nat → Nat) (y o : Sy) (hr : Hr) (tl : Tl) (ib : Bool) (iw : Nat) (ir : Int32) (ih : Hr) (it : Tl) (hS : RMc mw msd mn mon mhn mrd mtn mad mpn se wo jf ow oj kf ff vf cf tf pb ik kw kh kr kt kc ko wn rn sn0 adn pn pc z y o hr tl ib iw ir ih it) : Ctr l yX6_isSo cX6_isSo 3 (some .int) 5 136 E (wM E a) [.ref (a 0), .int p0, .int p1] (((mw, msd, mn, mon, mhn, mrd, mtn, mad, mpn), (se, wo, jf, ow, oj, kf, ff, vf, cf, tf, pb), (fat, whl, nw, nwd, njn), (rd, so, vl, jg), tko, (sdn, hh_), (ik, kw, kh, kr, kt, kc, ko))) (pI (fun r x => r = A_isSo z y p0 p1 ∧ RM x (((wn, rn, sn0, adn), (pn, pc), z, y, o, hr, tl, ib, iw, ir, ih, it)))) := by
  refine Ctr.of' (by decide +kernel) (Nat.le_of_ble_eq_true rfl) (fun X P0 hP0 O => ?_)
  refine g_sub [0, 1, 2] (lv' := [(0, .ref (a 0)), (1, .int p0), (2, .int p1)]) rfl ?_
  have hS9 := hS
  obtain ⟨⟨hwn, hwn0⟩, hrn, hsn, ⟨had, had0⟩, ⟨hpn, hpn0, hpb⟩, hz, ⟨hw, hy⟩, ⟨ho, hyo⟩, hh, ht, hik, hkp⟩ := hS
  refine g_aload_n 0 O dX6_isSo_0 rfl 0 rfl ?_
  refine g_iload_n 1 O dX6_isSo_1 rfl 1 rfl ?_
  refine g_callV 2 O (na := 1) (av := [.int p0]) (c_X6_isReading l E a mw msd mn mon mhn mrd mtn mad mpn se wo jf ow oj kf ff vf cf tf pb fat whl nw nwd njn rd so vl jg tko sdn hh_ ik kw kh kr kt kc ko p0 y z hw hy hz) kl_X6_148 km_X6_isReading kv_X6_isReading ki_X6 kc_X6_isReading (by decide +kernel) rfl (Nat.le_of_ble_eq_true rfl) (Nat.le_of_ble_eq_true rfl) (fun _ h => h) 0 rfl rfl (fun s => s) (fun _ _ _ _ h => h) rfl (Nat.le_of_ble_eq_true rfl) dX6_isSo_2 (fun v9 s9 hv9 => ?_)
  obtain ⟨r9, rfl, rfl, so', vl', jg', rfl, hso⟩ := hv9
  refine g_if_eq 5 O 15 dX6_isSo_5 (by decide) (fun h5 => ?_) (fun h5 => ?_)
  · -- taken
    refine g_bipush 15 O (v := (-101)) dX6_isSo_15 (by decide) ?_
    exact g_iret 17 O dX6_isSo_17 (by rw [hP0, A_isSo, if_neg (fun q => ite_f h5 q.1)]; exact ⟨_, rfl, rfl, hS9⟩)
  · -- not taken
    have hN := NR_le hy.1
    obtain ⟨k, hk0, hk, hkc⟩ := rng_of (by omega) (ite_t h5)
    refine g_iload_n 8 O dX6_isSo_8 rfl 2 rfl ?_
    refine g_callS 9 O (na := 1) (av := [.int p1]) (c_X6_isWorld l E _ _ p1) kl_X6_155 ks_X6_isWorld ki_X6 kc_X6_isWorld (by decide +kernel) rfl (Nat.le_of_ble_eq_true rfl) (Nat.le_of_ble_eq_true rfl) (fun _ h => h) (fun s => s) (fun _ _ _ _ h => h) rfl (Nat.le_of_ble_eq_true rfl) dX6_isSo_9 (fun v9 s9 hv9 => ?_)
    obtain ⟨rfl, rfl⟩ := hv9
    refine g_if_ne 12 O 18 dX6_isSo_12 (by decide) (fun h12 => ?_) (fun h12 => ?_)
    · -- taken
      obtain ⟨u, hu0, hu, huc⟩ := rng_of (n := 64) (by decide) (ite_t h12)
      refine g_aload_n 18 O dX6_isSo_18 rfl 0 rfl ?_
      refine g_get 19 O (v := .ref (a 14)) inX6 0 rfl rfl 26 (by decide) kf_X6_50 rfl dX6_isSo_19 ?_
      refine g_iload_n 22 O dX6_isSo_22 rfl 1 rfl ?_
      refine g_lald 23 O 14 k rfl (hk) (by omega) (by decide) dX6_isSo_23 ?_
      refine g_sl (TR z y k) (hso k hk0) ?_
      refine g_iload_n 24 O dX6_isSo_24 rfl 2 rfl ?_
      refine g_callS 25 O (na := 2) (av := [.long (TR z y k), .int p1]) (c_X6_isIn l E _ _ (TR z y k) p1 u hu hu0) kl_X6_158 ks_X6_isIn ki_X6 kc_X6_isIn (by decide +kernel) rfl (Nat.le_of_ble_eq_true rfl) (Nat.le_of_ble_eq_true rfl) (fun _ h => h) (fun s => s) (fun _ _ _ _ h => h) rfl (Nat.le_of_ble_eq_true rfl) dX6_isSo_25 (fun v9 s9 hv9 => ?_)
      obtain ⟨rfl, rfl⟩ := hv9
      refine g_if_eq 28 O 35 dX6_isSo_28 (by decide) (fun h28 => ?_) (fun h28 => ?_)
      · -- taken
        refine g_iconst 35 O (v := 0) dX6_isSo_35 (by decide) ?_
        exact g_iret 36 O dX6_isSo_36 (by rw [hP0, A_isSo, if_pos ⟨ite_t h5, ite_t h12⟩, hkc, huc, bi_f h28]; exact ⟨_, rfl, rfl, hS9⟩)
      · -- not taken
        refine g_iconst 31 O (v := 1) dX6_isSo_31 (by decide) ?_
        refine g_goto 32 O 36 dX6_isSo_32 (by decide) ?_
        exact g_iret 36 O dX6_isSo_36 (by rw [hP0, A_isSo, if_pos ⟨ite_t h5, ite_t h12⟩, hkc, huc, bi_t h28]; exact ⟨_, rfl, rfl, hS9⟩)
    · -- not taken
      refine g_bipush 15 O (v := (-101)) dX6_isSo_15 (by decide) ?_
      exact g_iret 17 O dX6_isSo_17 (by rw [hP0, A_isSo, if_neg (fun q => ite_f h12 q.2)]; exact ⟨_, rfl, rfl, hS9⟩)

set_option maxRecDepth 100000 in
set_option maxHeartbeats 4000000 in
theorem c_X6_come (l : Launch) (E : Ev) (a : Nat → Nat) (mw msd mn mon mhn mrd mtn mad mpn : Int32) (se wo jf ow oj kf ff vf cf tf pb : Nat → Int32) (fat whl nw : Int32) (nwd njn : Nat → Int32) (rd : Int32) (so vl : Nat → Int64) (jg : Nat → Int32) (tko : Nat → Int32) (sdn hh_ : Int64) (ik kw kh kr kt : Int32) (kc ko : Nat → Int32) (p0 : Int32) (wn : Nat) (rn sn0 : Int32) (adn pn : Nat) (pc : Nat → Int32) (z : Nat → Nat) (y o : Sy) (hr : Hr) (tl : Tl) (ib : Bool) (iw : Nat) (ir : Int32) (ih : Hr) (it : Tl) (hS : RMc mw msd mn mon mhn mrd mtn mad mpn se wo jf ow oj kf ff vf cf tf pb ik kw kh kr kt kc ko wn rn sn0 adn pn pc z y o hr tl ib iw ir ih it) : Ctr l yX6_come cX6_come 2 (some .int) 4 115 E (wM E a) [.ref (a 0), .int p0] (((mw, msd, mn, mon, mhn, mrd, mtn, mad, mpn), (se, wo, jf, ow, oj, kf, ff, vf, cf, tf, pb), (fat, whl, nw, nwd, njn), (rd, so, vl, jg), tko, (sdn, hh_), (ik, kw, kh, kr, kt, kc, ko))) (pI (fun r x => r = A_come z y wn p0 ∧ RM x (((wn, rn, sn0, adn), (pn, pc), z, y, o, hr, tl, ib, iw, ir, ih, it)))) := by
  refine Ctr.of' (by decide +kernel) (Nat.le_of_ble_eq_true rfl) (fun X P0 hP0 O => ?_)
  refine g_sub [0, 1] (lv' := [(0, .ref (a 0)), (1, .int p0)]) rfl ?_
  have hS9 := hS
  obtain ⟨⟨hwn, hwn0⟩, hrn, hsn, ⟨had, had0⟩, ⟨hpn, hpn0, hpb⟩, hz, ⟨hw, hy⟩, ⟨ho, hyo⟩, hh, ht, hik, hkp⟩ := hS
  refine g_iload_n 0 O dX6_come_0 rfl 1 rfl ?_
  refine g_iconst 1 O (v := 0) dX6_come_1 (by decide) ?_
  refine g_iconst 2 O (v := 1) dX6_come_2 (by decide) ?_
  refine g_callS 3 O (na := 3) (av := [.int p0, .int 0, .int 1]) (c_X6_within l E _ _ p0 0 1) kl_X6_69 ks_X6_within ki_X6 kc_X6_within (by decide +kernel) rfl (Nat.le_of_ble_eq_true rfl) (Nat.le_of_ble_eq_true rfl) (fun _ h => h) (fun s => s) (fun _ _ _ _ h => h) rfl (Nat.le_of_ble_eq_true rfl) dX6_come_3 (fun v9 s9 hv9 => ?_)
  obtain ⟨rfl, rfl⟩ := hv9
  refine g_if_ne 6 O 12 dX6_come_6 (by decide) (fun h6 => ?_) (fun h6 => ?_)
  · -- taken
    refine g_aload_n 12 O dX6_come_12 rfl 0 rfl ?_
    refine g_get 13 O (v := .int mn) inX6 0 rfl rfl 3 (by decide) kf_X6_97 rfl dX6_come_13 ?_
    refine g_if_ne 16 O 22 dX6_come_16 (by decide) (fun h16 => ?_) (fun h16 => ?_)
    · -- taken
      have y0 : ¬ y.1 = 0 := n0 (hw ▸ h16)
      refine g_aload_n 22 O dX6_come_22 rfl 0 rfl ?_
      refine g_aload_n 23 O dX6_come_23 rfl 0 rfl ?_
      refine g_get 24 O (v := .int mn) inX6 0 rfl rfl 3 (by decide) kf_X6_97 rfl dX6_come_24 ?_
      refine g_iconst 27 O (v := 0) dX6_come_27 (by decide) ?_
      refine g_callV 28 O (na := 2) (av := [.int mn, .int 0]) (c_X6_lay l E a mw msd mn mon mhn mrd mtn mad mpn se wo jf ow oj kf ff vf cf tf pb fat whl nw nwd njn rd so vl jg tko sdn hh_ ik kw kh kr kt kc ko mn 0 y z y.1 hw rfl (YM0 hy) hz) kl_X6_106 km_X6_lay kv_X6_lay ki_X6 kc_X6_lay (by decide +kernel) rfl (Nat.le_of_ble_eq_true rfl) (Nat.le_of_ble_eq_true rfl) (fun _ h => h) 0 rfl rfl (fun s => s) (fun _ _ _ _ h => h) rfl (Nat.le_of_ble_eq_true rfl) dX6_come_28 (fun v9 s9 hv9 => ?_)
      obtain ⟨rfl, so', vl', jg', rfl, hso⟩ := hv9
      refine g_aload_n 31 O dX6_come_31 rfl 0 rfl ?_
      refine g_iload_n 32 O dX6_come_32 rfl 1 rfl ?_
      refine g_callV 33 O (na := 1) (av := [.int p0]) (c_X6_comeNow l E a mw msd mn mon mhn mrd mtn mad mpn se wo jf ow oj kf ff vf cf tf pb fat whl nw nwd njn (nI (NR y)) so' vl' jg' tko sdn hh_ ik kw kh kr kt kc ko p0 y z hy.1 rfl hso wn hwn hwn0) kl_X6_165 km_X6_comeNow kv_X6_comeNow ki_X6 kc_X6_comeNow (by decide +kernel) rfl (Nat.le_of_ble_eq_true rfl) (Nat.le_of_ble_eq_true rfl) (fun _ h => h) 0 rfl rfl (fun s => s) (fun _ _ _ _ h => h) rfl (Nat.le_of_ble_eq_true rfl) dX6_come_33 (fun v9 s9 hv9 => ?_)
      obtain ⟨rfl, rfl⟩ := hv9
      exact g_iret 36 O dX6_come_36 (by rw [hP0, A_come, if_pos (ite_t h6), if_neg y0]; exact ⟨_, rfl, rfl, hS9⟩)
    · -- not taken
      have y0 : y.1 = 0 := m0 (by have := hy.1; omega) (hw ▸ h16)
      refine g_bipush 19 O (v := (-103)) dX6_come_19 (by decide) ?_
      exact g_iret 21 O dX6_come_21 (by rw [hP0, A_come, if_pos (ite_t h6), if_pos y0]; exact ⟨_, rfl, rfl, hS9⟩)
  · -- not taken
    refine g_bipush 9 O (v := (-102)) dX6_come_9 (by decide) ?_
    exact g_iret 11 O dX6_come_11 (by rw [hP0, A_come, if_neg (ite_f h6)]; exact ⟨_, rfl, rfl, hS9⟩)

set_option maxRecDepth 100000 in
set_option maxHeartbeats 4000000 in
theorem c_X6_fact (l : Launch) (E : Ev) (a : Nat → Nat) (mw msd mn mon mhn mrd mtn mad mpn : Int32) (se wo jf ow oj kf ff vf cf tf pb : Nat → Int32) (fat whl nw : Int32) (nwd njn : Nat → Int32) (rd : Int32) (so vl : Nat → Int64) (jg : Nat → Int32) (tko : Nat → Int32) (sdn hh_ : Int64) (ik kw kh kr kt : Int32) (kc ko : Nat → Int32) (p0 : Int32) (wn : Nat) (rn sn0 : Int32) (adn pn : Nat) (pc : Nat → Int32) (z : Nat → Nat) (y o : Sy) (hr : Hr) (tl : Tl) (ib : Bool) (iw : Nat) (ir : Int32) (ih : Hr) (it : Tl) (hS : RMc mw msd mn mon mhn mrd mtn mad mpn se wo jf ow oj kf ff vf cf tf pb ik kw kh kr kt kc ko wn rn sn0 adn pn pc z y o hr tl ib iw ir ih it) : Ctr l yX6_fact cX6_fact 2 (some .int) 2 42 E (wM E a) [.ref (a 0), .int p0] (((mw, msd, mn, mon, mhn, mrd, mtn, mad, mpn), (se, wo, jf, ow, oj, kf, ff, vf, cf, tf, pb), (fat, whl, nw, nwd, njn), (rd, so, vl, jg), tko, (sdn, hh_), (ik, kw, kh, kr, kt, kc, ko))) (pI (fun r x => r = A_fact wn p0 ∧ RM x (((wn, rn, sn0, adn), (pn, pc), z, y, o, hr, tl, ib, iw, ir, ih, it)))) := by
  refine Ctr.of' (by decide +kernel) (Nat.le_of_ble_eq_true rfl) (fun X P0 hP0 O => ?_)
  refine g_sub [0, 1] (lv' := [(0, .ref (a 0)), (1, .int p0)]) rfl ?_
  have hS9 := hS
  obtain ⟨⟨hwn, hwn0⟩, hrn, hsn, ⟨had, had0⟩, ⟨hpn, hpn0, hpb⟩, hz, ⟨hw, hy⟩, ⟨ho, hyo⟩, hh, ht, hik, hkp⟩ := hS
  refine g_iload_n 0 O dX6_fact_0 rfl 1 rfl ?_
  refine g_callS 1 O (na := 1) (av := [.int p0]) (c_X6_isFact l E _ _ p0) kl_X6_168 ks_X6_isFact ki_X6 kc_X6_isFact (by decide +kernel) rfl (Nat.le_of_ble_eq_true rfl) (Nat.le_of_ble_eq_true rfl) (fun _ h => h) (fun s => s) (fun _ _ _ _ h => h) rfl (Nat.le_of_ble_eq_true rfl) dX6_fact_1 (fun v9 s9 hv9 => ?_)
  obtain ⟨rfl, rfl⟩ := hv9
  refine g_if_eq 4 O 18 dX6_fact_4 (by decide) (fun h4 => ?_) (fun h4 => ?_)
  · -- taken
    refine g_bipush 18 O (v := (-101)) dX6_fact_18 (by decide) ?_
    exact g_iret 20 O dX6_fact_20 (by rw [hP0, A_fact, if_neg (ite_f h4)]; exact ⟨_, rfl, rfl, hS9⟩)
  · -- not taken
    obtain ⟨k, hk0, hk, hkc⟩ := rng_of (n := 6) (by decide) (ite_t h4)
    refine g_aload_n 7 O dX6_fact_7 rfl 0 rfl ?_
    refine g_get 8 O (v := .int mw) inX6 0 rfl rfl 0 (by decide) kf_X6_162 rfl dX6_fact_8 ?_
    refine g_iload_n 11 O dX6_fact_11 rfl 1 rfl ?_
    refine g_ishr 12 O dX6_fact_12 ?_
    refine g_iconst 13 O (v := 1) dX6_fact_13 (by decide) ?_
    refine g_iand 14 O dX6_fact_14 ?_
    refine g_si (nI (bitN wn k)) (by rw [hwn, hk]; exact bitN_ok2 wn hwn0 k hk0) ?_
    refine g_goto 15 O 20 dX6_fact_15 (by decide) ?_
    exact g_iret 20 O dX6_fact_20 (by rw [hP0, A_fact, if_pos (ite_t h4), hkc]; exact ⟨_, rfl, rfl, hS9⟩)

set_option maxRecDepth 100000 in
set_option maxHeartbeats 4000000 in
theorem c_X6_set (l : Launch) (E : Ev) (a : Nat → Nat) (mw msd mn mon mhn mrd mtn mad mpn : Int32) (se wo jf ow oj kf ff vf cf tf pb : Nat → Int32) (fat whl nw : Int32) (nwd njn : Nat → Int32) (rd : Int32) (so vl : Nat → Int64) (jg : Nat → Int32) (tko : Nat → Int32) (sdn hh_ : Int64) (ik kw kh kr kt : Int32) (kc ko : Nat → Int32) (p0 p1 : Int32) (wn : Nat) (rn sn0 : Int32) (adn pn : Nat) (pc : Nat → Int32) (z : Nat → Nat) (y o : Sy) (hr : Hr) (tl : Tl) (ib : Bool) (iw : Nat) (ir : Int32) (ih : Hr) (it : Tl) (hS : RMc mw msd mn mon mhn mrd mtn mad mpn se wo jf ow oj kf ff vf cf tf pb ik kw kh kr kt kc ko wn rn sn0 adn pn pc z y o hr tl ib iw ir ih it) : Ctr l yX6_set cX6_set 4 (some .int) 2 42 E (wM E a) [.ref (a 0), .int p0, .int p1] (((mw, msd, mn, mon, mhn, mrd, mtn, mad, mpn), (se, wo, jf, ow, oj, kf, ff, vf, cf, tf, pb), (fat, whl, nw, nwd, njn), (rd, so, vl, jg), tko, (sdn, hh_), (ik, kw, kh, kr, kt, kc, ko))) (pI (fun r x => r = A_set wn p0 p1 ∧ RM x (NS_set ((wn, rn, sn0, adn), (pn, pc), z, y, o, hr, tl, ib, iw, ir, ih, it) p0 p1))) := by
  refine Ctr.of' (by decide +kernel) (Nat.le_of_ble_eq_true rfl) (fun X P0 hP0 O => ?_)
  refine g_sub [0, 1, 2] (lv' := [(0, .ref (a 0)), (1, .int p0), (2, .int p1)]) rfl ?_
  have hS9 := hS
  obtain ⟨⟨hwn, hwn0⟩, hrn, hsn, ⟨had, had0⟩, ⟨hpn, hpn0, hpb⟩, hz, ⟨hw, hy⟩, ⟨ho, hyo⟩, hh, ht, hik, hkp⟩ := hS
  refine g_iload_n 0 O dX6_set_0 rfl 1 rfl ?_
  refine g_callS 1 O (na := 1) (av := [.int p0]) (c_X6_isFact l E _ _ p0) kl_X6_168 ks_X6_isFact ki_X6 kc_X6_isFact (by decide +kernel) rfl (Nat.le_of_ble_eq_true rfl) (Nat.le_of_ble_eq_true rfl) (fun _ h => h) (fun s => s) (fun _ _ _ _ h => h) rfl (Nat.le_of_ble_eq_true rfl) dX6_set_1 (fun v9 s9 hv9 => ?_)
  obtain ⟨rfl, rfl⟩ := hv9
  refine g_if_ne 4 O 10 dX6_set_4 (by decide) (fun h4 => ?_) (fun h4 => ?_)
  · -- taken
    obtain ⟨k, hk0, hk, hkc⟩ := rng_of (n := 6) (by decide) (ite_t h4)
    refine g_iload_n 10 O dX6_set_10 rfl 2 rfl ?_
    refine g_iconst 11 O (v := 0) dX6_set_11 (by decide) ?_
    refine g_iconst 12 O (v := 1) dX6_set_12 (by decide) ?_
    refine g_callS 13 O (na := 3) (av := [.int p1, .int 0, .int 1]) (c_X6_within l E _ _ p1 0 1) kl_X6_69 ks_X6_within ki_X6 kc_X6_within (by decide +kernel) rfl (Nat.le_of_ble_eq_true rfl) (Nat.le_of_ble_eq_true rfl) (fun _ h => h) (fun s => s) (fun _ _ _ _ h => h) rfl (Nat.le_of_ble_eq_true rfl) dX6_set_13 (fun v9 s9 hv9 => ?_)
    obtain ⟨rfl, rfl⟩ := hv9
    refine g_if_ne 16 O 22 dX6_set_16 (by decide) (fun h16 => ?_) (fun h16 => ?_)
    · -- taken
      have hv1 := ok1_iff.mp (ite_t h16)
      obtain ⟨v, hv0, hv, hvc⟩ := val_of hv1
      refine g_aload_n 22 O dX6_set_22 rfl 0 rfl ?_
      refine g_get 23 O (v := .int mw) inX6 0 rfl rfl 0 (by decide) kf_X6_162 rfl dX6_set_23 ?_
      refine g_iload_n 26 O dX6_set_26 rfl 1 rfl ?_
      refine g_ishr 27 O dX6_set_27 ?_
      refine g_iconst 28 O (v := 1) dX6_set_28 (by decide) ?_
      refine g_iand 29 O dX6_set_29 ?_
      refine g_si (nI (bitN wn k)) (by rw [hwn, hk]; exact bitN_ok2 wn hwn0 k hk0) ?_
      refine g_istore_n 30 O (lv' := [(3, .int (nI (bitN wn k))), (0, .ref (a 0)), (1, .int p0), (2, .int p1)]) dX6_set_30 rfl (by decide) rfl ?_
      refine g_aload_n 31 O dX6_set_31 rfl 1 rfl ?_
      refine g_aload_n 32 O dX6_set_32 rfl 1 rfl ?_
      refine g_get 33 O (v := .int mw) inX6 0 rfl rfl 0 (by decide) kf_X6_162 rfl dX6_set_33 ?_
      refine g_iload_n 36 O dX6_set_36 rfl 2 rfl ?_
      refine g_iload_n 37 O dX6_set_37 rfl 3 rfl ?_
      refine g_callS 38 O (na := 3) (av := [.int mw, .int p0, .int p1]) (c_X6_with l E _ _ mw p0 p1) kl_X6_171 ks_X6_with ki_X6 kc_X6_with (by decide +kernel) rfl (Nat.le_of_ble_eq_true rfl) (Nat.le_of_ble_eq_true rfl) (fun _ h => h) (fun s => s) (fun _ _ _ _ h => h) rfl (Nat.le_of_ble_eq_true rfl) dX6_set_38 (fun v9 s9 hv9 => ?_)
      obtain ⟨rfl, rfl⟩ := hv9
      refine g_si (nI (wN wn k v)) (by rw [hwn, hk, hv]; exact (wN_ok wn hwn0 k hk0 v hv0).1) ?_
      refine g_put 41 O inX6 tyX6_ok nmX6 (((nI (wN wn k v), msd, mn, mon, mhn, mrd, mtn, mad, mpn), (se, wo, jf, ow, oj, kf, ff, vf, cf, tf, pb), (fat, whl, nw, nwd, njn), (rd, so, vl, jg), tko, (sdn, hh_), (ik, kw, kh, kr, kt, kc, ko))) 0 rfl rfl 0 (by decide) kf_X6_162 rfl (rfl) (rfl) (Nat.le_of_ble_eq_true rfl) rfl dX6_set_41 ?_
      refine g_iload_n 44 O dX6_set_44 rfl 0 rfl ?_
      exact g_iret 45 O dX6_set_45 (by rw [hP0, A_set, if_pos (ite_t h4), if_pos hv1, hkc, NS_set, N_set, if_pos ⟨ite_t h4, hv1⟩, hkc, hvc]; exact ⟨_, rfl, rfl, ⟨⟨rfl, (wN_ok wn hwn0 k hk0 v hv0).2⟩, hrn, hsn, ⟨had, had0⟩, ⟨hpn, hpn0, hpb⟩, hz, ⟨hw, hy⟩, ⟨ho, hyo⟩, hh, ht, hik, hkp⟩⟩)
    · -- not taken
      refine g_bipush 19 O (v := (-102)) dX6_set_19 (by decide) ?_
      exact g_iret 21 O dX6_set_21 (by rw [hP0, A_set, if_pos (ite_t h4), if_neg (fun q => ite_f h16 (ok1_iff.mpr q)), NS_set, N_set, if_neg (fun q => ite_f h16 (ok1_iff.mpr q.2))]; exact ⟨_, rfl, rfl, hS9⟩)
  · -- not taken
    refine g_bipush 7 O (v := (-101)) dX6_set_7 (by decide) ?_
    exact g_iret 9 O dX6_set_9 (by rw [hP0, A_set, if_neg (ite_f h4), NS_set, N_set, if_neg (fun q => ite_f h4 q.1)]; exact ⟨_, rfl, rfl, hS9⟩)
