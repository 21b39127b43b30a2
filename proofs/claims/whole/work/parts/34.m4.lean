theorem le_m1 {p : Int32} {n : Nat} (hn : n ≤ 640) : (0 ≤ p ∧ p ≤ nI n - 1) ↔ (0 ≤ p ∧ p < nI n) := by
  have e : (nI n - 1).toInt = (n : Int) - 1 := by
    rcases Nat.eq_zero_or_pos n with q | q
    · subst q; rfl
    · rw [show (1 : Int32) = nI 1 from rfl, pk_sub q, nI_toInt (by omega)]; omega
  rw [Int32.le_iff_toInt_le (y := nI n - 1), Int32.lt_iff_toInt_lt, e, nI_toInt (by omega)]
  constructor
  · intro h; exact ⟨h.1, by omega⟩
  · intro h; exact ⟨h.1, by omega⟩
theorem le_5 {p : Int32} : (0 ≤ p ∧ p ≤ 5) ↔ okF p := le_m1 (n := 6) (by decide)
theorem le_63 {p : Int32} : (0 ≤ p ∧ p ≤ 63) ↔ okW p := le_m1 (n := 64) (by decide)
theorem ite_iff {a b : Prop} [Decidable a] [Decidable b] (h : a ↔ b) : (if a then (1 : Int32) else 0) = if b then 1 else 0 := by
  by_cases q : a
  · rw [if_pos q, if_pos (h.mp q)]
  · rw [if_neg q, if_neg (fun x => q (h.mpr x))]
def bst (k : Nat) (f : Nat → Nat) (n : Nat) : Nat := if k = 2 then mx f n else mn f n
theorem bst_1 (k : Nat) (f : Nat → Nat) : bst k f 1 = 0 := by
  unfold bst; split
  · exact mx_1 f
  · exact mn_1 f
theorem bst_lt (k : Nat) (f : Nat → Nat) {n : Nat} (h : 0 < n) : bst k f n < n := by
  unfold bst; split
  · exact mx_lt f h
  · exact mn_lt f h
theorem bst_2t {k : Nat} {f : Nat → Nat} {n : Nat} (h : k = 2) (q : f (bst k f n) < f n) : n = bst k f (n + 1) := by
  unfold bst at q ⊢
  rw [if_pos h] at q ⊢
  rw [mx, if_pos q]
theorem bst_2f {k : Nat} {f : Nat → Nat} {n : Nat} (h : k = 2) (q : ¬ f (bst k f n) < f n) : bst k f n = bst k f (n + 1) := by
  unfold bst at q ⊢
  rw [if_pos h] at q ⊢
  rw [mx, if_neg q, if_pos h]
theorem bst_3t {k : Nat} {f : Nat → Nat} {n : Nat} (h : ¬ k = 2) (q : f n < f (bst k f n)) : n = bst k f (n + 1) := by
  unfold bst at q ⊢
  rw [if_neg h] at q ⊢
  rw [mn, if_pos q]
theorem bst_3f {k : Nat} {f : Nat → Nat} {n : Nat} (h : ¬ k = 2) (q : ¬ f n < f (bst k f n)) : bst k f n = bst k f (n + 1) := by
  unfold bst at q ⊢
  rw [if_neg h] at q ⊢
  rw [mn, if_neg q, if_neg h]
theorem NR0 {y : Sy} : NR y = 0 ↔ y.1 = 0 := by
  constructor
  · intro h
    rcases Nat.eq_zero_or_pos y.1 with q | q
    · exact q
    · have := NR_pos q; omega
  · intro h; rw [NR, if_pos h]
theorem fi_m1 {p : Nat → Bool} {k : Nat} (hk : k < 2 ^ 31) : fi p k = -1 ↔ cn p k = 0 := by
  rw [cn_fp, fi]
  have hle := fp_le (fun k => !p k) k
  by_cases q : fp (fun k => !p k) k < k
  · rw [if_pos q]
    constructor
    · intro h
      have := congrArg Int32.toInt h
      rw [nI_toInt (by omega)] at this
      have e : ((-1 : Int32)).toInt = -1 := by decide
      rw [e] at this; omega
    · intro h; omega
  · rw [if_neg q]
    exact ⟨fun _ => by omega, fun _ => rfl⟩
theorem fi_s0 {p : Nat → Bool} {k : Nat} (hk : k < 2 ^ 31) (h : p k = true) (h1 : fi p k = -1) : nI k = fi p (k + 1) := (fi_t0 h ((fi_m1 hk).mp h1)).symm
theorem fi_s1 {p : Nat → Bool} {k : Nat} (hk : k < 2 ^ 31) (h : p k = true) (h1 : ¬ fi p k = -1) : fi p k = fi p (k + 1) := (fi_t1 h (fun q => h1 ((fi_m1 hk).mpr q))).symm
theorem fi_s2 {p : Nat → Bool} {k : Nat} (h : p k = false) : fi p k = fi p (k + 1) := (fi_f h).symm

set_option maxRecDepth 100000 in
set_option maxHeartbeats 4000000 in
theorem c_X6_isLetter (l : Launch) (E : Ev) {T : Type} (w : T → va_W) (σ : T) (p0 : Int32)  : Ctr l yX6_isLetter cX6_isLetter 1 (some .boolean) 1 22 E (w) [.int p0] σ (fun v8 s8 => v8 = some (.int (if okF p0 then 1 else 0)) ∧ s8 = σ) := by
  refine Ctr.of' (by decide +kernel) (Nat.le_of_ble_eq_true rfl) (fun X P0 hP0 O => ?_)
  refine g_sub [0] (lv' := [(0, .int p0)]) rfl ?_
  refine g_iload_n 0 O dX6_isLetter_0 rfl 0 rfl ?_
  refine g_iconst 1 O (v := 0) dX6_isLetter_1 (by decide) ?_
  refine g_iconst 2 O (v := 5) dX6_isLetter_2 (by decide) ?_
  refine g_callS 3 O (na := 3) (av := [.int p0, .int 0, .int 5]) (c_X6_within l E _ _ p0 0 5) kl_X6_69 ks_X6_within ki_X6 kc_X6_within (by decide +kernel) rfl (Nat.le_of_ble_eq_true rfl) (Nat.le_of_ble_eq_true rfl) (fun _ h => h) (fun s => s) (fun _ _ _ _ h => h) rfl (Nat.le_of_ble_eq_true rfl) dX6_isLetter_3 (fun v9 s9 hv9 => ?_)
  obtain ⟨rfl, rfl⟩ := hv9
  exact g_zret (by split <;> rfl) 6 O dX6_isLetter_6 (by rw [hP0, ite_iff le_5]; exact ⟨rfl, rfl⟩)

set_option maxRecDepth 100000 in
set_option maxHeartbeats 4000000 in
theorem c_X6_isFact (l : Launch) (E : Ev) {T : Type} (w : T → va_W) (σ : T) (p0 : Int32)  : Ctr l yX6_isFact cX6_isFact 1 (some .boolean) 1 22 E (w) [.int p0] σ (fun v8 s8 => v8 = some (.int (if okF p0 then 1 else 0)) ∧ s8 = σ) := by
  refine Ctr.of' (by decide +kernel) (Nat.le_of_ble_eq_true rfl) (fun X P0 hP0 O => ?_)
  refine g_sub [0] (lv' := [(0, .int p0)]) rfl ?_
  refine g_iload_n 0 O dX6_isFact_0 rfl 0 rfl ?_
  refine g_iconst 1 O (v := 0) dX6_isFact_1 (by decide) ?_
  refine g_iconst 2 O (v := 5) dX6_isFact_2 (by decide) ?_
  refine g_callS 3 O (na := 3) (av := [.int p0, .int 0, .int 5]) (c_X6_within l E _ _ p0 0 5) kl_X6_69 ks_X6_within ki_X6 kc_X6_within (by decide +kernel) rfl (Nat.le_of_ble_eq_true rfl) (Nat.le_of_ble_eq_true rfl) (fun _ h => h) (fun s => s) (fun _ _ _ _ h => h) rfl (Nat.le_of_ble_eq_true rfl) dX6_isFact_3 (fun v9 s9 hv9 => ?_)
  obtain ⟨rfl, rfl⟩ := hv9
  exact g_zret (by split <;> rfl) 6 O dX6_isFact_6 (by rw [hP0, ite_iff le_5]; exact ⟨rfl, rfl⟩)

set_option maxRecDepth 100000 in
set_option maxHeartbeats 4000000 in
theorem c_X6_isWorld (l : Launch) (E : Ev) {T : Type} (w : T → va_W) (σ : T) (p0 : Int32)  : Ctr l yX6_isWorld cX6_isWorld 1 (some .boolean) 1 22 E (w) [.int p0] σ (fun v8 s8 => v8 = some (.int (if okW p0 then 1 else 0)) ∧ s8 = σ) := by
  refine Ctr.of' (by decide +kernel) (Nat.le_of_ble_eq_true rfl) (fun X P0 hP0 O => ?_)
  refine g_sub [0] (lv' := [(0, .int p0)]) rfl ?_
  refine g_iload_n 0 O dX6_isWorld_0 rfl 0 rfl ?_
  refine g_iconst 1 O (v := 0) dX6_isWorld_1 (by decide) ?_
  refine g_bipush 2 O (v := 63) dX6_isWorld_2 (by decide) ?_
  refine g_callS 4 O (na := 3) (av := [.int p0, .int 0, .int 63]) (c_X6_within l E _ _ p0 0 63) kl_X6_69 ks_X6_within ki_X6 kc_X6_within (by decide +kernel) rfl (Nat.le_of_ble_eq_true rfl) (Nat.le_of_ble_eq_true rfl) (fun _ h => h) (fun s => s) (fun _ _ _ _ h => h) rfl (Nat.le_of_ble_eq_true rfl) dX6_isWorld_4 (fun v9 s9 hv9 => ?_)
  obtain ⟨rfl, rfl⟩ := hv9
  exact g_zret (by split <;> rfl) 7 O dX6_isWorld_7 (by rw [hP0, ite_iff le_63]; exact ⟨rfl, rfl⟩)

set_option maxRecDepth 100000 in
set_option maxHeartbeats 4000000 in
theorem c_X6_isHearer (l : Launch) (E : Ev) (a : Nat → Nat) (mw msd mn mon mhn mrd mtn mad mpn : Int32) (se wo jf ow oj kf ff vf cf tf pb : Nat → Int32) (fat whl nw : Int32) (nwd njn : Nat → Int32) (rd : Int32) (so vl : Nat → Int64) (jg : Nat → Int32) (tko : Nat → Int32) (sdn hh_ : Int64) (ik kw kh kr kt : Int32) (kc ko : Nat → Int32) (p0 : Int32) (hr : Hr) (hh : HrW (mhn, kf, ff, vf, cf) hr) : Ctr l yX6_isHearer cX6_isHearer 2 (some .boolean) 1 22 E (wM E a) [.ref (a 0), .int p0] (((mw, msd, mn, mon, mhn, mrd, mtn, mad, mpn), (se, wo, jf, ow, oj, kf, ff, vf, cf, tf, pb), (fat, whl, nw, nwd, njn), (rd, so, vl, jg), tko, (sdn, hh_), (ik, kw, kh, kr, kt, kc, ko))) (fun v8 s8 => v8 = some (.int (if okH hr p0 then 1 else 0)) ∧ s8 = ((mw, msd, mn, mon, mhn, mrd, mtn, mad, mpn), (se, wo, jf, ow, oj, kf, ff, vf, cf, tf, pb), (fat, whl, nw, nwd, njn), (rd, so, vl, jg), tko, (sdn, hh_), (ik, kw, kh, kr, kt, kc, ko))) := by
  refine Ctr.of' (by decide +kernel) (Nat.le_of_ble_eq_true rfl) (fun X P0 hP0 O => ?_)
  refine g_sub [0, 1] (lv' := [(0, .ref (a 0)), (1, .int p0)]) rfl ?_
  refine g_iload_n 0 O dX6_isHearer_0 rfl 1 rfl ?_
  refine g_iconst 1 O (v := 0) dX6_isHearer_1 (by decide) ?_
  refine g_aload_n 2 O dX6_isHearer_2 rfl 0 rfl ?_
  refine g_get 3 O (v := .int mhn) inX6 0 rfl rfl 9 (by decide) kf_X6_175 rfl dX6_isHearer_3 ?_
  refine g_si (nI hr.1) (hh.1) ?_
  refine g_iconst 6 O (v := 1) dX6_isHearer_6 (by decide) ?_
  refine g_isub 7 O dX6_isHearer_7 ?_
  refine g_callS 8 O (na := 3) (av := [.int p0, .int 0, .int ((nI hr.1) - 1)]) (c_X6_within l E _ _ p0 0 ((nI hr.1) - 1)) kl_X6_69 ks_X6_within ki_X6 kc_X6_within (by decide +kernel) rfl (Nat.le_of_ble_eq_true rfl) (Nat.le_of_ble_eq_true rfl) (fun _ h => h) (fun s => s) (fun _ _ _ _ h => h) rfl (Nat.le_of_ble_eq_true rfl) dX6_isHearer_8 (fun v9 s9 hv9 => ?_)
  obtain ⟨rfl, rfl⟩ := hv9
  exact g_zret (by split <;> rfl) 11 O dX6_isHearer_11 (by rw [hP0, ite_iff (le_m1 (by have := hh.2.1; omega))]; exact ⟨rfl, rfl⟩)

set_option maxRecDepth 100000 in
set_option maxHeartbeats 4000000 in
theorem c_X6_isReading (l : Launch) (E : Ev) (a : Nat → Nat) (mw msd mn mon mhn mrd mtn mad mpn : Int32) (se wo jf ow oj kf ff vf cf tf pb : Nat → Int32) (fat whl nw : Int32) (nwd njn : Nat → Int32) (rd : Int32) (so vl : Nat → Int64) (jg : Nat → Int32) (tko : Nat → Int32) (sdn hh_ : Int64) (ik kw kh kr kt : Int32) (kc ko : Nat → Int32) (p0 : Int32) (y : Sy) (z : Nat → Nat) (hw : mn = nI y.1) (hy : YM wo jf y) (hz : SnW se z) : Ctr l yX6_isReading cX6_isReading 2 (some .boolean) 4 115 E (wM E a) [.ref (a 0), .int p0] (((mw, msd, mn, mon, mhn, mrd, mtn, mad, mpn), (se, wo, jf, ow, oj, kf, ff, vf, cf, tf, pb), (fat, whl, nw, nwd, njn), (rd, so, vl, jg), tko, (sdn, hh_), (ik, kw, kh, kr, kt, kc, ko))) (pI (fun r x => r = (if okR y p0 then 1 else 0) ∧ ∃ (so' vl' : Nat → Int64) (jg' : Nat → Int32), x = ((mw, msd, mn, mon, mhn, mrd, mtn, mad, mpn), (se, wo, jf, ow, oj, kf, ff, vf, cf, tf, pb), (fat, whl, nw, nwd, njn), (nI (NR y), so', vl', jg'), tko, (sdn, hh_), (ik, kw, kh, kr, kt, kc, ko)) ∧ ∀ r, r < NR y → so' r = TR z y r)) := by
  refine Ctr.of' (by decide +kernel) (Nat.le_of_ble_eq_true rfl) (fun X P0 hP0 O => ?_)
  refine g_sub [0, 1] (lv' := [(0, .ref (a 0)), (1, .int p0)]) rfl ?_
  refine g_aload_n 0 O dX6_isReading_0 rfl 0 rfl ?_
  refine g_aload_n 1 O dX6_isReading_1 rfl 0 rfl ?_
  refine g_get 2 O (v := .int mn) inX6 0 rfl rfl 3 (by decide) kf_X6_97 rfl dX6_isReading_2 ?_
  refine g_iconst 5 O (v := 0) dX6_isReading_5 (by decide) ?_
  refine g_callV 6 O (na := 2) (av := [.int mn, .int 0]) (c_X6_lay l E a mw msd mn mon mhn mrd mtn mad mpn se wo jf ow oj kf ff vf cf tf pb fat whl nw nwd njn rd so vl jg tko sdn hh_ ik kw kh kr kt kc ko mn 0 y z y.1 hw rfl (YM0 hy) hz) kl_X6_106 km_X6_lay kv_X6_lay ki_X6 kc_X6_lay (by decide +kernel) rfl (Nat.le_of_ble_eq_true rfl) (Nat.le_of_ble_eq_true rfl) (fun _ h => h) 0 rfl rfl (fun s => s) (fun _ _ _ _ h => h) rfl (Nat.le_of_ble_eq_true rfl) dX6_isReading_6 (fun v9 s9 hv9 => ?_)
  obtain ⟨rfl, so', vl', jg', rfl, hso⟩ := hv9
  refine g_iload_n 9 O dX6_isReading_9 rfl 1 rfl ?_
  refine g_iconst 10 O (v := 0) dX6_isReading_10 (by decide) ?_
  refine g_aload_n 11 O dX6_isReading_11 rfl 0 rfl ?_
  refine g_get 12 O (v := .int (nI (NR y))) inX6 0 rfl rfl 25 (by decide) kf_X6_110 rfl dX6_isReading_12 ?_
  refine g_iconst 15 O (v := 1) dX6_isReading_15 (by decide) ?_
  refine g_isub 16 O dX6_isReading_16 ?_
  refine g_callS 17 O (na := 3) (av := [.int p0, .int 0, .int ((nI (NR y)) - 1)]) (c_X6_within l E _ _ p0 0 ((nI (NR y)) - 1)) kl_X6_69 ks_X6_within ki_X6 kc_X6_within (by decide +kernel) rfl (Nat.le_of_ble_eq_true rfl) (Nat.le_of_ble_eq_true rfl) (fun _ h => h) (fun s => s) (fun _ _ _ _ h => h) rfl (Nat.le_of_ble_eq_true rfl) dX6_isReading_17 (fun v9 s9 hv9 => ?_)
  obtain ⟨rfl, rfl⟩ := hv9
  exact g_zret (by split <;> rfl) 20 O dX6_isReading_20 (by rw [hP0]; exact ⟨_, rfl, ite_iff (le_m1 (NR_le hy.1)), so', vl', jg', rfl, hso⟩)

theorem tk_bst {z : Nat → Nat} {y : Sy} {k : Nat} (h0 : ¬ k = 0) (h1 : ¬ k = 1) (h4 : k ≤ 4) : tk z y k = bst k (fun r => pcn (TR z y r)) (NR y) := by
  unfold tk bst
  rw [if_neg h1]
  by_cases h2 : k = 2
  · rw [if_pos h2, if_pos h2]
  · rw [if_neg h2, if_neg h2, if_pos (by omega)]

set_option maxRecDepth 100000 in
set_option maxHeartbeats 4000000 in
theorem c_X6_takes (l : Launch) (E : Ev) (a : Nat → Nat) (mw msd mn mon mhn mrd mtn mad mpn : Int32) (se wo jf ow oj kf ff vf cf tf pb : Nat → Int32) (fat whl nw : Int32) (nwd njn : Nat → Int32) (rd : Int32) (so vl : Nat → Int64) (jg : Nat → Int32) (tko : Nat → Int32) (sdn hh_ : Int64) (ik kw kh kr kt : Int32) (kc ko : Nat → Int32) (p0 : Int32) (y : Sy) (z : Nat → Nat) (hy4 : y.1 ≤ 4) (hrd : rd = nI (NR y)) (hso : ∀ r, r < NR y → so r = TR z y r) (hr : Hr) (hh : HrW (mhn, kf, ff, vf, cf) hr) (p : Nat) (hp : p0 = nI p) (hp0 : p < hr.1) : Ctr l yX6_takes cX6_takes 6 (some .int) 1 23 E (wM E a) [.ref (a 0), .int p0] (((mw, msd, mn, mon, mhn, mrd, mtn, mad, mpn), (se, wo, jf, ow, oj, kf, ff, vf, cf, tf, pb), (fat, whl, nw, nwd, njn), (rd, so, vl, jg), tko, (sdn, hh_), (ik, kw, kh, kr, kt, kc, ko))) (fun v8 s8 => v8 = some (.int (tkI z y (hr.2.1 p))) ∧ s8 = ((mw, msd, mn, mon, mhn, mrd, mtn, mad, mpn), (se, wo, jf, ow, oj, kf, ff, vf, cf, tf, pb), (fat, whl, nw, nwd, njn), (rd, so, vl, jg), tko, (sdn, hh_), (ik, kw, kh, kr, kt, kc, ko))) := by
  refine Ctr.of' (by decide +kernel) (Nat.le_of_ble_eq_true rfl) (fun X P0 hP0 O => ?_)
  refine g_sub [0, 1] (lv' := [(0, .ref (a 0)), (1, .int p0)]) rfl ?_
  have hN := NR_le hy4
  refine g_aload_n 0 O dX6_takes_0 rfl 0 rfl ?_
  refine g_get 1 O (v := .ref (a 6)) inX6 0 rfl rfl 10 (by decide) kf_X6_25 rfl dX6_takes_1 ?_
  refine g_iload_n 4 O dX6_takes_4 rfl 1 rfl ?_
  refine g_iald 5 O 6 p rfl (hp) (by have := hh.2.1; omega) (by decide) dX6_takes_5 ?_
  refine g_si (nI (hr.2.1 p)) ((hh.2.2 p hp0).1.1) ?_
  refine g_if_eq 6 O 16 dX6_takes_6 (by decide) (fun h6 => ?_) (fun h6 => ?_)
  · -- taken
    have k0 : hr.2.1 p = 0 := (nI_eq (b := 0) (by have := (hh.2.2 p hp0).1.2; omega) (by decide)).mp h6
    refine g_aload_n 16 O dX6_takes_16 rfl 0 rfl ?_
    refine g_get 17 O (v := .int rd) inX6 0 rfl rfl 25 (by decide) kf_X6_110 rfl dX6_takes_17 ?_
    refine g_si (nI (NR y)) (hrd) ?_
    refine g_if_ne 20 O 27 dX6_takes_20 (by decide) (fun h20 => ?_) (fun h20 => ?_)
    · -- taken
      have n0 : ¬ NR y = 0 := fun e => h20 (by rw [e]; rfl)
      refine g_iconst 27 O (v := 0) dX6_takes_27 (by decide) ?_
      exact g_iret 28 O dX6_takes_28 (by rw [hP0, tkI, if_neg (fun e => n0 (NR0.mpr e)), tk, k0]; exact ⟨rfl, rfl⟩)
    · -- not taken
      refine g_iconst 23 O (v := (-1)) dX6_takes_23 (by decide) ?_
      refine g_goto 24 O 28 dX6_takes_24 (by decide) ?_
      exact g_iret 28 O dX6_takes_28 (by rw [hP0, tkI, if_pos (NR0.mp ((nI_eq (b := 0) (by omega) (by decide)).mp h20))]; exact ⟨rfl, rfl⟩)
  · -- not taken
    have k0 : ¬ hr.2.1 p = 0 := fun e => h6 (by rw [e]; rfl)
    refine g_aload_n 9 O dX6_takes_9 rfl 0 rfl ?_
    refine g_get 10 O (v := .int rd) inX6 0 rfl rfl 25 (by decide) kf_X6_110 rfl dX6_takes_10 ?_
    refine g_si (nI (NR y)) (hrd) ?_
    refine g_if_ne 13 O 29 dX6_takes_13 (by decide) (fun h13 => ?_) (fun h13 => ?_)
    · -- taken
      have n0 : ¬ NR y = 0 := fun e => h13 (by rw [e]; rfl)
      refine g_aload_n 29 O dX6_takes_29 rfl 0 rfl ?_
      refine g_get 30 O (v := .ref (a 6)) inX6 0 rfl rfl 10 (by decide) kf_X6_25 rfl dX6_takes_30 ?_
      refine g_iload_n 33 O dX6_takes_33 rfl 1 rfl ?_
      refine g_iald 34 O 6 p rfl (hp) (by have := hh.2.1; omega) (by decide) dX6_takes_34 ?_
      refine g_si (nI (hr.2.1 p)) ((hh.2.2 p hp0).1.1) ?_
      refine g_iconst 35 O (v := 1) dX6_takes_35 (by decide) ?_
      refine g_icmp_ne 36 O 46 dX6_takes_36 (by decide) (fun h36 => ?_) (fun h36 => ?_)
      · -- taken
        have k1 : ¬ hr.2.1 p = 1 := fun e => h36 (by rw [e]; rfl)
        refine g_iconst 46 O (v := 0) dX6_takes_46 (by decide) ?_
        refine g_si (nI (bst (hr.2.1 p) (fun r => pcn (TR z y r)) 1)) (by rw [bst_1]; rfl) ?_
        refine g_istore_n 47 O (lv' := [(2, .int (nI (bst (hr.2.1 p) (fun r => pcn (TR z y r)) 1))), (0, .ref (a 0)), (1, .int p0)]) dX6_takes_47 rfl (by decide) rfl ?_
        refine g_iconst 48 O (v := 1) dX6_takes_48 (by decide) ?_
        refine g_istore_n 49 O (lv' := [(3, .int 1), (2, .int (nI (bst (hr.2.1 p) (fun r => pcn (TR z y r)) 1))), (0, .ref (a 0)), (1, .int p0)]) dX6_takes_49 rfl (by decide) rfl ?_
        refine g_sub [0, 1, 2, 3] (lv' := [(3, .int 1), (2, .int (nI (bst (hr.2.1 p) (fun r => pcn (TR z y r)) 1))), (0, .ref (a 0)), (1, .int p0)]) rfl ?_
        have L50 : ∀ (fuel : Nat) (k : Nat) (hk1 : 1 ≤ k) (hk : k ≤ NR y), NR y - k < fuel → G l E (wM E a) P0 X 6 (((mw, msd, mn, mon, mhn, mrd, mtn, mad, mpn), (se, wo, jf, ow, oj, kf, ff, vf, cf, tf, pb), (fat, whl, nw, nwd, njn), (rd, so, vl, jg), tko, (sdn, hh_), (ik, kw, kh, kr, kt, kc, ko))) 50 [(3, .int (nI k)), (2, .int (nI (bst (hr.2.1 p) (fun r => pcn (TR z y r)) k))), (0, .ref (a 0)), (1, .int p0)] [] := by
          intro fuel
          induction fuel with
          | zero => intro k hk1 hk hfu; exact absurd hfu (Nat.not_lt_zero _)
          | succ fuel ih50 =>
            intro k hk1 hk hfu
            refine g_iload_n 50 O dX6_takes_50 rfl 0 rfl ?_
            refine g_aload_n 51 O dX6_takes_51 rfl 2 rfl ?_
            refine g_get 52 O (v := .int rd) inX6 0 rfl rfl 25 (by decide) kf_X6_110 rfl dX6_takes_52 ?_
            refine g_si (nI (NR y)) (hrd) ?_
            refine g_icmp_ge 55 O 119 dX6_takes_55 (by decide) (fun h55 => ?_) (fun h55 => ?_)
            · -- taken
              have e : k = NR y := by have := ge_of_le (by omega) (by omega) h55; omega
              subst e
              refine g_iload_n 119 O dX6_takes_119 rfl 1 rfl ?_
              exact g_iret 120 O dX6_takes_120 (by have h4 := (hh.2.2 p hp0).1.2; rw [hP0, tkI, if_neg (fun e => n0 (NR0.mpr e)), tk_bst k0 k1 h4]; exact ⟨rfl, rfl⟩)
            · -- not taken
              have hlt : k < NR y := lt_of_nge (by omega) h55
              have hbl : bst (hr.2.1 p) (fun r => pcn (TR z y r)) k < k := bst_lt _ _ (by omega)
              refine g_aload_n 58 O dX6_takes_58 rfl 2 rfl ?_
              refine g_get 59 O (v := .ref (a 14)) inX6 0 rfl rfl 26 (by decide) kf_X6_50 rfl dX6_takes_59 ?_
              refine g_iload_n 62 O dX6_takes_62 rfl 0 rfl ?_
              refine g_lald 63 O 14 k rfl (rfl) (by omega) (by decide) dX6_takes_63 ?_
              refine g_sl (TR z y k) (hso k hlt) ?_
              refine g_callS 64 O (na := 1) (av := [.long (TR z y k)]) (c_X6_size l E _ _ (TR z y k)) kl_X6_151 ks_X6_size ki_X6 kc_X6_size (by decide +kernel) rfl (Nat.le_of_ble_eq_true rfl) (Nat.le_of_ble_eq_true rfl) (fun _ h => h) (fun s => s) (fun _ _ _ _ h => h) rfl (Nat.le_of_ble_eq_true rfl) dX6_takes_64 (fun v9 s9 hv9 => ?_)
              obtain ⟨rfl, rfl⟩ := hv9
              refine g_istore 67 O (lv' := [(4, .int (nI (pcn (TR z y k)))), (3, .int (nI k)), (2, .int (nI (bst (hr.2.1 p) (fun r => pcn (TR z y r)) k))), (0, .ref (a 0)), (1, .int p0)]) dX6_takes_67 (by decide) rfl ?_
              refine g_aload_n 69 O dX6_takes_69 rfl 3 rfl ?_
              refine g_get 70 O (v := .ref (a 14)) inX6 0 rfl rfl 26 (by decide) kf_X6_50 rfl dX6_takes_70 ?_
              refine g_iload_n 73 O dX6_takes_73 rfl 2 rfl ?_
              refine g_lald 74 O 14 ((bst (hr.2.1 p) (fun r => pcn (TR z y r)) k)) rfl (rfl) (by omega) (by decide) dX6_takes_74 ?_
              refine g_sl (TR z y (bst (hr.2.1 p) (fun r => pcn (TR z y r)) k)) (hso _ (by omega)) ?_
              refine g_callS 75 O (na := 1) (av := [.long (TR z y (bst (hr.2.1 p) (fun r => pcn (TR z y r)) k))]) (c_X6_size l E _ _ (TR z y (bst (hr.2.1 p) (fun r => pcn (TR z y r)) k))) kl_X6_151 ks_X6_size ki_X6 kc_X6_size (by decide +kernel) rfl (Nat.le_of_ble_eq_true rfl) (Nat.le_of_ble_eq_true rfl) (fun _ h => h) (fun s => s) (fun _ _ _ _ h => h) rfl (Nat.le_of_ble_eq_true rfl) dX6_takes_75 (fun v9 s9 hv9 => ?_)
              obtain ⟨rfl, rfl⟩ := hv9
              refine g_istore 78 O (lv' := [(5, .int (nI (pcn (TR z y (bst (hr.2.1 p) (fun r => pcn (TR z y r)) k))))), (4, .int (nI (pcn (TR z y k)))), (3, .int (nI k)), (2, .int (nI (bst (hr.2.1 p) (fun r => pcn (TR z y r)) k))), (0, .ref (a 0)), (1, .int p0)]) dX6_takes_78 (by decide) rfl ?_
              refine g_aload_n 80 O dX6_takes_80 rfl 4 rfl ?_
              refine g_get 81 O (v := .ref (a 6)) inX6 0 rfl rfl 10 (by decide) kf_X6_25 rfl dX6_takes_81 ?_
              refine g_iload_n 84 O dX6_takes_84 rfl 5 rfl ?_
              refine g_iald 85 O 6 p rfl (hp) (by have := hh.2.1; omega) (by decide) dX6_takes_85 ?_
              refine g_si (nI (hr.2.1 p)) ((hh.2.2 p hp0).1.1) ?_
              refine g_iconst 86 O (v := 2) dX6_takes_86 (by decide) ?_
              refine g_icmp_ne 87 O 100 dX6_takes_87 (by decide) (fun h87 => ?_) (fun h87 => ?_)
              · -- taken
                refine g_iload 100 O dX6_takes_100 1 rfl ?_
                refine g_iload 102 O dX6_takes_102 0 rfl ?_
                refine g_icmp_ge 104 O 111 dX6_takes_104 (by decide) (fun h104 => ?_) (fun h104 => ?_)
                · -- taken
                  refine g_iload_n 111 O dX6_takes_111 rfl 3 rfl ?_
                  refine g_si (nI (bst (hr.2.1 p) (fun r => pcn (TR z y r)) (k + 1))) (congrArg nI (bst_3f (fun e => h87 (by rw [e]; rfl)) (fun q => Int32.not_lt.mpr h104 ((nI_ltI (by have := pcn_le (TR z y k); omega) (by have := pcn_le (TR z y (bst (hr.2.1 p) (fun r => pcn (TR z y r)) k)); omega)).mpr q)))) ?_
                  refine g_istore_n 112 O (lv' := [(2, .int (nI (bst (hr.2.1 p) (fun r => pcn (TR z y r)) (k + 1)))), (5, .int (nI (pcn (TR z y (bst (hr.2.1 p) (fun r => pcn (TR z y r)) k))))), (4, .int (nI (pcn (TR z y k)))), (3, .int (nI k)), (0, .ref (a 0)), (1, .int p0)]) dX6_takes_112 rfl (by decide) rfl ?_
                  refine g_iinc 113 O (v := nI (k + 1)) (q := 3) (lv' := [(3, .int (nI (k + 1))), (2, .int (nI (bst (hr.2.1 p) (fun r => pcn (TR z y r)) (k + 1)))), (5, .int (nI (pcn (TR z y (bst (hr.2.1 p) (fun r => pcn (TR z y r)) k))))), (4, .int (nI (pcn (TR z y k)))), (0, .ref (a 0)), (1, .int p0)]) dX6_takes_113 rfl (nI_1 k) (by decide) rfl ?_
                  refine g_goto 116 O 50 dX6_takes_116 (by decide) ?_
                  refine g_sub [0, 1, 4, 5] (lv' := [(3, .int (nI (k + 1))), (2, .int (nI (bst (hr.2.1 p) (fun r => pcn (TR z y r)) (k + 1)))), (0, .ref (a 0)), (1, .int p0)]) rfl ?_
                  exact ih50 (k + 1) (by omega) (by omega) (by omega)
                · -- not taken
                  refine g_iload_n 107 O dX6_takes_107 rfl 2 rfl ?_
                  refine g_goto 108 O 112 dX6_takes_108 (by decide) ?_
                  refine g_si (nI (bst (hr.2.1 p) (fun r => pcn (TR z y r)) (k + 1))) (congrArg nI (bst_3t (fun e => h87 (by rw [e]; rfl)) ((nI_ltI (by have := pcn_le (TR z y k); omega) (by have := pcn_le (TR z y (bst (hr.2.1 p) (fun r => pcn (TR z y r)) k)); omega)).mp (Int32.not_le.mp h104)))) ?_
                  refine g_istore_n 112 O (lv' := [(2, .int (nI (bst (hr.2.1 p) (fun r => pcn (TR z y r)) (k + 1)))), (5, .int (nI (pcn (TR z y (bst (hr.2.1 p) (fun r => pcn (TR z y r)) k))))), (4, .int (nI (pcn (TR z y k)))), (3, .int (nI k)), (0, .ref (a 0)), (1, .int p0)]) dX6_takes_112 rfl (by decide) rfl ?_
                  refine g_iinc 113 O (v := nI (k + 1)) (q := 3) (lv' := [(3, .int (nI (k + 1))), (2, .int (nI (bst (hr.2.1 p) (fun r => pcn (TR z y r)) (k + 1)))), (5, .int (nI (pcn (TR z y (bst (hr.2.1 p) (fun r => pcn (TR z y r)) k))))), (4, .int (nI (pcn (TR z y k)))), (0, .ref (a 0)), (1, .int p0)]) dX6_takes_113 rfl (nI_1 k) (by decide) rfl ?_
                  refine g_goto 116 O 50 dX6_takes_116 (by decide) ?_
                  refine g_sub [0, 1, 4, 5] (lv' := [(3, .int (nI (k + 1))), (2, .int (nI (bst (hr.2.1 p) (fun r => pcn (TR z y r)) (k + 1)))), (0, .ref (a 0)), (1, .int p0)]) rfl ?_
                  exact ih50 (k + 1) (by omega) (by omega) (by omega)
              · -- not taken
                refine g_iload 90 O dX6_takes_90 1 rfl ?_
                refine g_iload 92 O dX6_takes_92 0 rfl ?_
                refine g_icmp_le 94 O 111 dX6_takes_94 (by decide) (fun h94 => ?_) (fun h94 => ?_)
                · -- taken
                  refine g_iload_n 111 O dX6_takes_111 rfl 3 rfl ?_
                  refine g_si (nI (bst (hr.2.1 p) (fun r => pcn (TR z y r)) (k + 1))) (congrArg nI (bst_2f ((nI_eq (b := 2) (by have := (hh.2.2 p hp0).1.2; omega) (by decide)).mp h87) (fun q => Int32.not_lt.mpr h94 ((nI_ltI (by have := pcn_le (TR z y (bst (hr.2.1 p) (fun r => pcn (TR z y r)) k)); omega) (by have := pcn_le (TR z y k); omega)).mpr q)))) ?_
                  refine g_istore_n 112 O (lv' := [(2, .int (nI (bst (hr.2.1 p) (fun r => pcn (TR z y r)) (k + 1)))), (5, .int (nI (pcn (TR z y (bst (hr.2.1 p) (fun r => pcn (TR z y r)) k))))), (4, .int (nI (pcn (TR z y k)))), (3, .int (nI k)), (0, .ref (a 0)), (1, .int p0)]) dX6_takes_112 rfl (by decide) rfl ?_
                  refine g_iinc 113 O (v := nI (k + 1)) (q := 3) (lv' := [(3, .int (nI (k + 1))), (2, .int (nI (bst (hr.2.1 p) (fun r => pcn (TR z y r)) (k + 1)))), (5, .int (nI (pcn (TR z y (bst (hr.2.1 p) (fun r => pcn (TR z y r)) k))))), (4, .int (nI (pcn (TR z y k)))), (0, .ref (a 0)), (1, .int p0)]) dX6_takes_113 rfl (nI_1 k) (by decide) rfl ?_
                  refine g_goto 116 O 50 dX6_takes_116 (by decide) ?_
                  refine g_sub [0, 1, 4, 5] (lv' := [(3, .int (nI (k + 1))), (2, .int (nI (bst (hr.2.1 p) (fun r => pcn (TR z y r)) (k + 1)))), (0, .ref (a 0)), (1, .int p0)]) rfl ?_
                  exact ih50 (k + 1) (by omega) (by omega) (by omega)
                · -- not taken
                  refine g_goto 97 O 107 dX6_takes_97 (by decide) ?_
                  refine g_iload_n 107 O dX6_takes_107 rfl 2 rfl ?_
                  refine g_goto 108 O 112 dX6_takes_108 (by decide) ?_
                  refine g_si (nI (bst (hr.2.1 p) (fun r => pcn (TR z y r)) (k + 1))) (congrArg nI (bst_2t ((nI_eq (b := 2) (by have := (hh.2.2 p hp0).1.2; omega) (by decide)).mp h87) ((nI_ltI (by have := pcn_le (TR z y (bst (hr.2.1 p) (fun r => pcn (TR z y r)) k)); omega) (by have := pcn_le (TR z y k); omega)).mp (Int32.not_le.mp h94)))) ?_
                  refine g_istore_n 112 O (lv' := [(2, .int (nI (bst (hr.2.1 p) (fun r => pcn (TR z y r)) (k + 1)))), (5, .int (nI (pcn (TR z y (bst (hr.2.1 p) (fun r => pcn (TR z y r)) k))))), (4, .int (nI (pcn (TR z y k)))), (3, .int (nI k)), (0, .ref (a 0)), (1, .int p0)]) dX6_takes_112 rfl (by decide) rfl ?_
                  refine g_iinc 113 O (v := nI (k + 1)) (q := 3) (lv' := [(3, .int (nI (k + 1))), (2, .int (nI (bst (hr.2.1 p) (fun r => pcn (TR z y r)) (k + 1)))), (5, .int (nI (pcn (TR z y (bst (hr.2.1 p) (fun r => pcn (TR z y r)) k))))), (4, .int (nI (pcn (TR z y k)))), (0, .ref (a 0)), (1, .int p0)]) dX6_takes_113 rfl (nI_1 k) (by decide) rfl ?_
                  refine g_goto 116 O 50 dX6_takes_116 (by decide) ?_
                  refine g_sub [0, 1, 4, 5] (lv' := [(3, .int (nI (k + 1))), (2, .int (nI (bst (hr.2.1 p) (fun r => pcn (TR z y r)) (k + 1)))), (0, .ref (a 0)), (1, .int p0)]) rfl ?_
                  exact ih50 (k + 1) (by omega) (by omega) (by omega)
        exact L50 _ 1 (by decide) (by omega) (Nat.lt_succ_self _)
      · -- not taken
        have k1 : hr.2.1 p = 1 := (nI_eq (b := 1) (by have := (hh.2.2 p hp0).1.2; omega) (by decide)).mp h36
        refine g_aload_n 39 O dX6_takes_39 rfl 0 rfl ?_
        refine g_get 40 O (v := .int rd) inX6 0 rfl rfl 25 (by decide) kf_X6_110 rfl dX6_takes_40 ?_
        refine g_si (nI (NR y)) (hrd) ?_
        refine g_iconst 43 O (v := 1) dX6_takes_43 (by decide) ?_
        refine g_isub 44 O dX6_takes_44 ?_
        refine g_si (nI (NR y - 1)) (pk_sub (b := 1) (by omega)) ?_
        exact g_iret 45 O dX6_takes_45 (by rw [hP0, tkI, if_neg (fun e => n0 (NR0.mpr e)), tk, if_pos k1]; exact ⟨rfl, rfl⟩)
    · -- not taken
      refine g_aload_n 16 O dX6_takes_16 rfl 0 rfl ?_
      refine g_get 17 O (v := .int rd) inX6 0 rfl rfl 25 (by decide) kf_X6_110 rfl dX6_takes_17 ?_
      refine g_si (nI (NR y)) (hrd) ?_
      refine g_if_ne 20 O 27 dX6_takes_20 (by decide) (fun h20 => False.elim (h20 h13)) (fun h20 => ?_)
      refine g_iconst 23 O (v := (-1)) dX6_takes_23 (by decide) ?_
      refine g_goto 24 O 28 dX6_takes_24 (by decide) ?_
      exact g_iret 28 O dX6_takes_28 (by rw [hP0, tkI, if_pos (NR0.mp ((nI_eq (b := 0) (by omega) (by decide)).mp h20))]; exact ⟨rfl, rfl⟩)

set_option maxRecDepth 100000 in
set_option maxHeartbeats 4000000 in
theorem c_X6_actsBy (l : Launch) (E : Ev) (a : Nat → Nat) (mw msd mn mon mhn mrd mtn mad mpn : Int32) (se wo jf ow oj kf ff vf cf tf pb : Nat → Int32) (fat whl nw : Int32) (nwd njn : Nat → Int32) (rd : Int32) (so vl : Nat → Int64) (jg : Nat → Int32) (tko : Nat → Int32) (sdn hh_ : Int64) (ik kw kh kr kt : Int32) (kc ko : Nat → Int32) (p0 p1 p2 : Int32) (y : Sy) (z : Nat → Nat) (hy4 : y.1 ≤ 4) (hrd : rd = nI (NR y)) (hso : ∀ r, r < NR y → so r = TR z y r) (hr : Hr) (hh : HrW (mhn, kf, ff, vf, cf) hr) (p : Nat) (hp : p0 = nI p) (hp0 : p < hr.1) (r : Nat) (hr1 : p1 = nI r) (hr0 : r < NR y) (wn : Nat) (hwn : p2 = nI wn) (hwn0 : wn < 64) : Ctr l yX6_actsBy cX6_actsBy 4 (some .boolean) 1 22 E (wM E a) [.ref (a 0), .int p0, .int p1, .int p2] (((mw, msd, mn, mon, mhn, mrd, mtn, mad, mpn), (se, wo, jf, ow, oj, kf, ff, vf, cf, tf, pb), (fat, whl, nw, nwd, njn), (rd, so, vl, jg), tko, (sdn, hh_), (ik, kw, kh, kr, kt, kc, ko))) (fun v8 s8 => v8 = some (.int (bi (ac (hr.2.1 p) (TR z y r) wn))) ∧ s8 = ((mw, msd, mn, mon, mhn, mrd, mtn, mad, mpn), (se, wo, jf, ow, oj, kf, ff, vf, cf, tf, pb), (fat, whl, nw, nwd, njn), (rd, so, vl, jg), tko, (sdn, hh_), (ik, kw, kh, kr, kt, kc, ko))) := by
  refine Ctr.of' (by decide +kernel) (Nat.le_of_ble_eq_true rfl) (fun X P0 hP0 O => ?_)
  refine g_sub [0, 1, 2, 3] (lv' := [(0, .ref (a 0)), (1, .int p0), (2, .int p1), (3, .int p2)]) rfl ?_
  have hN := NR_le hy4
  refine g_aload_n 0 O dX6_actsBy_0 rfl 0 rfl ?_
  refine g_get 1 O (v := .ref (a 14)) inX6 0 rfl rfl 26 (by decide) kf_X6_50 rfl dX6_actsBy_1 ?_
  refine g_iload_n 4 O dX6_actsBy_4 rfl 2 rfl ?_
  refine g_lald 5 O 14 r rfl (hr1) (by omega) (by decide) dX6_actsBy_5 ?_
  refine g_sl (TR z y r) (hso r hr0) ?_
  refine g_iload_n 6 O dX6_actsBy_6 rfl 3 rfl ?_
  refine g_callS 7 O (na := 2) (av := [.long (TR z y r), .int p2]) (c_X6_isIn l E _ _ (TR z y r) p2 wn hwn hwn0) kl_X6_158 ks_X6_isIn ki_X6 kc_X6_isIn (by decide +kernel) rfl (Nat.le_of_ble_eq_true rfl) (Nat.le_of_ble_eq_true rfl) (fun _ h => h) (fun s => s) (fun _ _ _ _ h => h) rfl (Nat.le_of_ble_eq_true rfl) dX6_actsBy_7 (fun v9 s9 hv9 => ?_)
  obtain ⟨rfl, rfl⟩ := hv9
  refine g_aload_n 10 O dX6_actsBy_10 rfl 0 rfl ?_
  refine g_get 11 O (v := .ref (a 6)) inX6 0 rfl rfl 10 (by decide) kf_X6_25 rfl dX6_actsBy_11 ?_
  refine g_iload_n 14 O dX6_actsBy_14 rfl 1 rfl ?_
  refine g_iald 15 O 6 p rfl (hp) (by have := hh.2.1; omega) (by decide) dX6_actsBy_15 ?_
  refine g_si (nI (hr.2.1 p)) ((hh.2.2 p hp0).1.1) ?_
  refine g_iconst 16 O (v := 4) dX6_actsBy_16 (by decide) ?_
  refine g_icmp_ne 17 O 24 dX6_actsBy_17 (by decide) (fun h17 => ?_) (fun h17 => ?_)
  · -- taken
    refine g_iconst 24 O (v := 0) dX6_actsBy_24 (by decide) ?_
    refine g_icmp_ne 25 O 32 dX6_actsBy_25 (by decide) (fun h25 => ?_) (fun h25 => ?_)
    · -- taken
      refine g_iconst 32 O (v := 0) dX6_actsBy_32 (by decide) ?_
      exact g_zret (rfl) 33 O dX6_actsBy_33 (by rw [hP0, ac, if_neg (fun e => h17 (by rw [e]; rfl)), show tb (TR z y r) wn = true from bi_t h25]; exact ⟨rfl, rfl⟩)
    · -- not taken
      refine g_iconst 28 O (v := 1) dX6_actsBy_28 (by decide) ?_
      refine g_goto 29 O 33 dX6_actsBy_29 (by decide) ?_
      exact g_zret (rfl) 33 O dX6_actsBy_33 (by rw [hP0, ac, if_neg (fun e => h17 (by rw [e]; rfl)), show tb (TR z y r) wn = false from bi_f h25]; exact ⟨rfl, rfl⟩)
  · -- not taken
    refine g_iconst 20 O (v := 1) dX6_actsBy_20 (by decide) ?_
    refine g_goto 21 O 25 dX6_actsBy_21 (by decide) ?_
    refine g_icmp_ne 25 O 32 dX6_actsBy_25 (by decide) (fun h25 => ?_) (fun h25 => ?_)
    · -- taken
      refine g_iconst 32 O (v := 0) dX6_actsBy_32 (by decide) ?_
      exact g_zret (rfl) 33 O dX6_actsBy_33 (by rw [hP0, ac, if_pos ((nI_eq (b := 4) (by have := (hh.2.2 p hp0).1.2; omega) (by decide)).mp h17), show tb (TR z y r) wn = false from bi_n1 h25]; exact ⟨rfl, rfl⟩)
    · -- not taken
      refine g_iconst 28 O (v := 1) dX6_actsBy_28 (by decide) ?_
      refine g_goto 29 O 33 dX6_actsBy_29 (by decide) ?_
      exact g_zret (rfl) 33 O dX6_actsBy_33 (by rw [hP0, ac, if_pos ((nI_eq (b := 4) (by have := (hh.2.2 p hp0).1.2; omega) (by decide)).mp h17), show tb (TR z y r) wn = true from bi_1 h25]; exact ⟨rfl, rfl⟩)

set_option maxRecDepth 100000 in
set_option maxHeartbeats 4000000 in
theorem c_X6_behind (l : Launch) (E : Ev) (a : Nat → Nat) (mw msd mn mon mhn mrd mtn mad mpn : Int32) (se wo jf ow oj kf ff vf cf tf pb : Nat → Int32) (fat whl nw : Int32) (nwd njn : Nat → Int32) (rd : Int32) (so vl : Nat → Int64) (jg : Nat → Int32) (tko : Nat → Int32) (sdn hh_ : Int64) (ik kw kh kr kt : Int32) (kc ko : Nat → Int32) (p0 p1 p2 : Int32) (y : Sy) (z : Nat → Nat) (hy4 : y.1 ≤ 4) (hrd : rd = nI (NR y)) (hso : ∀ r, r < NR y → so r = TR z y r) (hr : Hr) (hh : HrW (mhn, kf, ff, vf, cf) hr) (p : Nat) (hp : p0 = nI p) (hp0 : p < hr.1) (r : Nat) (hr1 : p1 = nI r) (hr0 : r < NR y) (wn : Nat) (hwn : p2 = nI wn) (hwn0 : wn < 64) : Ctr l yX6_behind cX6_behind 4 (some .int) 2 45 E (wM E a) [.ref (a 0), .int p0, .int p1, .int p2] (((mw, msd, mn, mon, mhn, mrd, mtn, mad, mpn), (se, wo, jf, ow, oj, kf, ff, vf, cf, tf, pb), (fat, whl, nw, nwd, njn), (rd, so, vl, jg), tko, (sdn, hh_), (ik, kw, kh, kr, kt, kc, ko))) (fun v8 s8 => v8 = some (.int (nI (bh hr p (TR z y r) wn))) ∧ s8 = ((mw, msd, mn, mon, mhn, mrd, mtn, mad, mpn), (se, wo, jf, ow, oj, kf, ff, vf, cf, tf, pb), (fat, whl, nw, nwd, njn), (rd, so, vl, jg), tko, (sdn, hh_), (ik, kw, kh, kr, kt, kc, ko))) := by
  refine Ctr.of' (by decide +kernel) (Nat.le_of_ble_eq_true rfl) (fun X P0 hP0 O => ?_)
  refine g_sub [0, 1, 2, 3] (lv' := [(0, .ref (a 0)), (1, .int p0), (2, .int p1), (3, .int p2)]) rfl ?_
  refine g_aload_n 0 O dX6_behind_0 rfl 0 rfl ?_
  refine g_iload_n 1 O dX6_behind_1 rfl 1 rfl ?_
  refine g_iload_n 2 O dX6_behind_2 rfl 2 rfl ?_
  refine g_iload_n 3 O dX6_behind_3 rfl 3 rfl ?_
  refine g_callV 4 O (na := 3) (av := [.int p0, .int p1, .int p2]) (c_X6_actsBy l E a mw msd mn mon mhn mrd mtn mad mpn se wo jf ow oj kf ff vf cf tf pb fat whl nw nwd njn rd so vl jg tko sdn hh_ ik kw kh kr kt kc ko p0 p1 p2 y z hy4 hrd hso hr hh p hp hp0 r hr1 hr0 wn hwn hwn0) kl_X6_178 km_X6_actsBy kv_X6_actsBy ki_X6 kc_X6_actsBy (by decide +kernel) rfl (Nat.le_of_ble_eq_true rfl) (Nat.le_of_ble_eq_true rfl) (fun _ h => h) 0 rfl rfl (fun s => s) (fun _ _ _ _ h => h) rfl (Nat.le_of_ble_eq_true rfl) dX6_behind_4 (fun v9 s9 hv9 => ?_)
  obtain ⟨rfl, rfl⟩ := hv9
  refine g_if_eq 7 O 29 dX6_behind_7 (by decide) (fun h7 => ?_) (fun h7 => ?_)
  · -- taken
    refine g_iload_n 29 O dX6_behind_29 rfl 3 rfl ?_
    refine g_si (nI wn) (hwn) ?_
    exact g_iret 30 O dX6_behind_30 (by rw [hP0, bh, if_neg (by rw [bi_f h7]; decide)]; exact ⟨rfl, rfl⟩)
  · -- not taken
    refine g_iload_n 10 O dX6_behind_10 rfl 3 rfl ?_
    refine g_aload_n 11 O dX6_behind_11 rfl 0 rfl ?_
    refine g_get 12 O (v := .ref (a 7)) inX6 0 rfl rfl 11 (by decide) kf_X6_28 rfl dX6_behind_12 ?_
    refine g_iload_n 15 O dX6_behind_15 rfl 1 rfl ?_
    refine g_iald 16 O 7 p rfl (hp) (by have := hh.2.1; omega) (by decide) dX6_behind_16 ?_
    refine g_si (nI (hr.2.2.1 p)) ((hh.2.2 p hp0).2.1.1) ?_
    refine g_aload_n 17 O dX6_behind_17 rfl 0 rfl ?_
    refine g_get 18 O (v := .ref (a 8)) inX6 0 rfl rfl 12 (by decide) kf_X6_31 rfl dX6_behind_18 ?_
    refine g_iload_n 21 O dX6_behind_21 rfl 1 rfl ?_
    refine g_iald 22 O 8 p rfl (hp) (by have := hh.2.1; omega) (by decide) dX6_behind_22 ?_
    refine g_si (nI (hr.2.2.2.1 p)) ((hh.2.2 p hp0).2.2.1.1) ?_
    refine g_callS 23 O (na := 3) (av := [.int p2, .int (nI (hr.2.2.1 p)), .int (nI (hr.2.2.2.1 p))]) (c_X6_with l E _ _ p2 (nI (hr.2.2.1 p)) (nI (hr.2.2.2.1 p))) kl_X6_171 ks_X6_with ki_X6 kc_X6_with (by decide +kernel) rfl (Nat.le_of_ble_eq_true rfl) (Nat.le_of_ble_eq_true rfl) (fun _ h => h) (fun s => s) (fun _ _ _ _ h => h) rfl (Nat.le_of_ble_eq_true rfl) dX6_behind_23 (fun v9 s9 hv9 => ?_)
    obtain ⟨rfl, rfl⟩ := hv9
    refine g_goto 26 O 30 dX6_behind_26 (by decide) ?_
    refine g_si (nI (wN wn (hr.2.2.1 p) (hr.2.2.2.1 p))) (by rw [hwn]; exact (wN_ok wn hwn0 _ (hh.2.2 p hp0).2.1.2 _ (hh.2.2 p hp0).2.2.1.2).1) ?_
    exact g_iret 30 O dX6_behind_30 (by rw [hP0, bh, if_pos (bi_t h7)]; exact ⟨rfl, rfl⟩)

theorem tkI_n {z : Nat → Nat} {y : Sy} {k : Nat} (h4 : y.1 ≤ 4) (h : tkI z y k = -1) : y.1 = 0 := by
  rcases Nat.eq_zero_or_pos y.1 with q | q
  · exact q
  · rw [tkI, if_neg (by omega)] at h
    have h1 := tk_lt (z := z) (k := k) (NR_pos q)
    have h2 := NR_le h4
    have := congrArg Int32.toInt h
    rw [nI_toInt (by omega)] at this
    have e : ((-1 : Int32)).toInt = -1 := by decide
    rw [e] at this; omega

set_option maxRecDepth 100000 in
set_option maxHeartbeats 4000000 in
theorem c_X6_hearerNow (l : Launch) (E : Ev) (a : Nat → Nat) (mw msd mn mon mhn mrd mtn mad mpn : Int32) (se wo jf ow oj kf ff vf cf tf pb : Nat → Int32) (fat whl nw : Int32) (nwd njn : Nat → Int32) (rd : Int32) (so vl : Nat → Int64) (jg : Nat → Int32) (tko : Nat → Int32) (sdn hh_ : Int64) (ik kw kh kr kt : Int32) (kc ko : Nat → Int32) (p0 p1 : Int32) (y : Sy) (z : Nat → Nat) (hy4 : y.1 ≤ 4) (hrd : rd = nI (NR y)) (hso : ∀ r, r < NR y → so r = TR z y r) (hr : Hr) (hh : HrW (mhn, kf, ff, vf, cf) hr) (p : Nat) (hp : p0 = nI p) (hp0 : p < hr.1) (wn : Nat) (hwn : mw = nI wn) (hwn0 : wn < 64) : Ctr l yX6_hearerNow cX6_hearerNow 4 (some .int) 2 48 E (wM E a) [.ref (a 0), .int p0, .int p1] (((mw, msd, mn, mon, mhn, mrd, mtn, mad, mpn), (se, wo, jf, ow, oj, kf, ff, vf, cf, tf, pb), (fat, whl, nw, nwd, njn), (rd, so, vl, jg), tko, (sdn, hh_), (ik, kw, kh, kr, kt, kc, ko))) (fun v8 s8 => v8 = some (.int (aN z y hr wn p p1)) ∧ s8 = ((mw, msd, mn, mon, mhn, mrd, mtn, mad, mpn), (se, wo, jf, ow, oj, kf, ff, vf, cf, tf, pb), (fat, whl, nw, nwd, njn), (rd, so, vl, jg), tko, (sdn, hh_), (ik, kw, kh, kr, kt, kc, ko))) := by
  refine Ctr.of' (by decide +kernel) (Nat.le_of_ble_eq_true rfl) (fun X P0 hP0 O => ?_)
  refine g_sub [0, 1, 2] (lv' := [(0, .ref (a 0)), (1, .int p0), (2, .int p1)]) rfl ?_
  refine g_aload_n 0 O dX6_hearerNow_0 rfl 0 rfl ?_
  refine g_iload_n 1 O dX6_hearerNow_1 rfl 1 rfl ?_
  refine g_callV 2 O (na := 1) (av := [.int p0]) (c_X6_takes l E a mw msd mn mon mhn mrd mtn mad mpn se wo jf ow oj kf ff vf cf tf pb fat whl nw nwd njn rd so vl jg tko sdn hh_ ik kw kh kr kt kc ko p0 y z hy4 hrd hso hr hh p hp hp0) kl_X6_181 km_X6_takes kv_X6_takes ki_X6 kc_X6_takes (by decide +kernel) rfl (Nat.le_of_ble_eq_true rfl) (Nat.le_of_ble_eq_true rfl) (fun _ h => h) 0 rfl rfl (fun s => s) (fun _ _ _ _ h => h) rfl (Nat.le_of_ble_eq_true rfl) dX6_hearerNow_2 (fun v9 s9 hv9 => ?_)
  obtain ⟨rfl, rfl⟩ := hv9
  refine g_istore_n 5 O (lv' := [(3, .int (tkI z y (hr.2.1 p))), (0, .ref (a 0)), (1, .int p0), (2, .int p1)]) dX6_hearerNow_5 rfl (by decide) rfl ?_
  refine g_iload_n 6 O dX6_hearerNow_6 rfl 3 rfl ?_
  rcases sw5 p1 with c0 | c0 | c0 | c0 | c0 | c0 | c0
  ·
    refine g_si 0 (c0) ?_
    refine g_tabIn 7 O 40 dX6_hearerNow_7 (by decide) (by decide) rfl (by decide) ?_
    refine g_aload_n 40 O dX6_hearerNow_40 rfl 1 rfl ?_
    refine g_get 41 O (v := .ref (a 6)) inX6 0 rfl rfl 10 (by decide) kf_X6_25 rfl dX6_hearerNow_41 ?_
    refine g_iload_n 44 O dX6_hearerNow_44 rfl 2 rfl ?_
    refine g_iald 45 O 6 p rfl (hp) (by have := hh.2.1; omega) (by decide) dX6_hearerNow_45 ?_
    refine g_si (nI (hr.2.1 p)) ((hh.2.2 p hp0).1.1) ?_
    exact g_iret 46 O dX6_hearerNow_46 (by rw [hP0, c0]; exact ⟨rfl, rfl⟩)
  ·
    refine g_si 1 (c0) ?_
    refine g_tabIn 7 O 47 dX6_hearerNow_7 (by decide) (by decide) rfl (by decide) ?_
    refine g_aload_n 47 O dX6_hearerNow_47 rfl 1 rfl ?_
    refine g_get 48 O (v := .ref (a 7)) inX6 0 rfl rfl 11 (by decide) kf_X6_28 rfl dX6_hearerNow_48 ?_
    refine g_iload_n 51 O dX6_hearerNow_51 rfl 2 rfl ?_
    refine g_iald 52 O 7 p rfl (hp) (by have := hh.2.1; omega) (by decide) dX6_hearerNow_52 ?_
    refine g_si (nI (hr.2.2.1 p)) ((hh.2.2 p hp0).2.1.1) ?_
    exact g_iret 53 O dX6_hearerNow_53 (by rw [hP0, c0]; exact ⟨rfl, rfl⟩)
  ·
    refine g_si 2 (c0) ?_
    refine g_tabIn 7 O 54 dX6_hearerNow_7 (by decide) (by decide) rfl (by decide) ?_
    refine g_aload_n 54 O dX6_hearerNow_54 rfl 1 rfl ?_
    refine g_get 55 O (v := .ref (a 8)) inX6 0 rfl rfl 12 (by decide) kf_X6_31 rfl dX6_hearerNow_55 ?_
    refine g_iload_n 58 O dX6_hearerNow_58 rfl 2 rfl ?_
    refine g_iald 59 O 8 p rfl (hp) (by have := hh.2.1; omega) (by decide) dX6_hearerNow_59 ?_
    refine g_si (nI (hr.2.2.2.1 p)) ((hh.2.2 p hp0).2.2.1.1) ?_
    exact g_iret 60 O dX6_hearerNow_60 (by rw [hP0, c0]; exact ⟨rfl, rfl⟩)
  ·
    refine g_si 3 (c0) ?_
    refine g_tabIn 7 O 61 dX6_hearerNow_7 (by decide) (by decide) rfl (by decide) ?_
    refine g_iload_n 61 O dX6_hearerNow_61 rfl 0 rfl ?_
    exact g_iret 62 O dX6_hearerNow_62 (by rw [hP0, c0]; exact ⟨rfl, rfl⟩)
  ·
    refine g_si 4 (c0) ?_
    refine g_tabIn 7 O 63 dX6_hearerNow_7 (by decide) (by decide) rfl (by decide) ?_
    refine g_iload_n 63 O dX6_hearerNow_63 rfl 0 rfl ?_
    refine g_iconst 64 O (v := (-1)) dX6_hearerNow_64 (by decide) ?_
    refine g_icmp_eq 65 O 85 dX6_hearerNow_65 (by decide) (fun h65 => ?_) (fun h65 => ?_)
    · -- taken
      have y0 : y.1 = 0 := tkI_n hy4 h65
      refine g_iconst 85 O (v := 0) dX6_hearerNow_85 (by decide) ?_
      exact g_iret 86 O dX6_hearerNow_86 (by rw [hP0, show aN z y hr wn p p1 = bi (decide (¬ y.1 = 0) && ac (hr.2.1 p) (TR z y (tk z y (hr.2.1 p))) wn) from by rw [c0]; rfl, decide_eq_false (fun q => q y0), Bool.false_and]; exact ⟨rfl, rfl⟩)
    · -- not taken
      have y0 : ¬ y.1 = 0 := fun e => h65 (by rw [tkI, if_pos e])
      refine g_aload_n 68 O dX6_hearerNow_68 rfl 1 rfl ?_
      refine g_iload_n 69 O dX6_hearerNow_69 rfl 2 rfl ?_
      refine g_iload_n 70 O dX6_hearerNow_70 rfl 0 rfl ?_
      refine g_aload_n 71 O dX6_hearerNow_71 rfl 1 rfl ?_
      refine g_get 72 O (v := .int mw) inX6 0 rfl rfl 0 (by decide) kf_X6_162 rfl dX6_hearerNow_72 ?_
      refine g_callV 75 O (na := 3) (av := [.int p0, .int (tkI z y (hr.2.1 p)), .int mw]) (c_X6_actsBy l E a mw msd mn mon mhn mrd mtn mad mpn se wo jf ow oj kf ff vf cf tf pb fat whl nw nwd njn rd so vl jg tko sdn hh_ ik kw kh kr kt kc ko p0 (tkI z y (hr.2.1 p)) mw y z hy4 hrd hso hr hh p hp hp0 (tk z y (hr.2.1 p)) (by rw [tkI, if_neg y0]) (tk_lt (NR_pos (Nat.pos_of_ne_zero y0))) wn hwn hwn0) kl_X6_178 km_X6_actsBy kv_X6_actsBy ki_X6 kc_X6_actsBy (by decide +kernel) rfl (Nat.le_of_ble_eq_true rfl) (Nat.le_of_ble_eq_true rfl) (fun _ h => h) 0 rfl rfl (fun s => s) (fun _ _ _ _ h => h) rfl (Nat.le_of_ble_eq_true rfl) dX6_hearerNow_75 (fun v9 s9 hv9 => ?_)
      obtain ⟨rfl, rfl⟩ := hv9
      refine g_if_eq 78 O 85 dX6_hearerNow_78 (by decide) (fun h78 => ?_) (fun h78 => ?_)
      · -- taken
        refine g_iconst 85 O (v := 0) dX6_hearerNow_85 (by decide) ?_
        exact g_iret 86 O dX6_hearerNow_86 (by rw [hP0, show aN z y hr wn p p1 = bi (decide (¬ y.1 = 0) && ac (hr.2.1 p) (TR z y (tk z y (hr.2.1 p))) wn) from by rw [c0]; rfl, decide_eq_true y0, Bool.true_and, bi_f h78]; exact ⟨rfl, rfl⟩)
      · -- not taken
        refine g_iconst 81 O (v := 1) dX6_hearerNow_81 (by decide) ?_
        refine g_goto 82 O 86 dX6_hearerNow_82 (by decide) ?_
        exact g_iret 86 O dX6_hearerNow_86 (by rw [hP0, show aN z y hr wn p p1 = bi (decide (¬ y.1 = 0) && ac (hr.2.1 p) (TR z y (tk z y (hr.2.1 p))) wn) from by rw [c0]; rfl, decide_eq_true y0, Bool.true_and, bi_t h78]; exact ⟨rfl, rfl⟩)
  · have c5 : ¬ p1 = 0 ∧ ¬ p1 = 1 ∧ ¬ p1 = 2 ∧ ¬ p1 = 3 ∧ ¬ p1 = 4 := by rw [c0]; decide
    refine g_tabOut 7 O 87 dX6_hearerNow_7 (by rw [c0]; decide) (by decide) ?_
    refine g_aload_n 87 O dX6_hearerNow_87 rfl 1 rfl ?_
    refine g_get 88 O (v := .ref (a 9)) inX6 0 rfl rfl 13 (by decide) kf_X6_34 rfl dX6_hearerNow_88 ?_
    refine g_iload_n 91 O dX6_hearerNow_91 rfl 2 rfl ?_
    refine g_iald 92 O 9 p rfl (hp) (by have := hh.2.1; omega) (by decide) dX6_hearerNow_92 ?_
    refine g_si (hr.2.2.2.2 p) ((hh.2.2 p hp0).2.2.2) ?_
    exact g_iret 93 O dX6_hearerNow_93 (by rw [hP0, aN, if_neg c5.1, if_neg c5.2.1, if_neg c5.2.2.1, if_neg c5.2.2.2.1, if_neg c5.2.2.2.2]; exact ⟨rfl, rfl⟩)
  · have c5 : ¬ p1 = 0 ∧ ¬ p1 = 1 ∧ ¬ p1 = 2 ∧ ¬ p1 = 3 ∧ ¬ p1 = 4 := ⟨fun e => by rw [e] at c0; exact absurd c0 (by decide), fun e => by rw [e] at c0; exact absurd c0 (by decide), fun e => by rw [e] at c0; exact absurd c0 (by decide), fun e => by rw [e] at c0; exact absurd c0 (by decide), fun e => by rw [e] at c0; exact absurd c0 (by decide)⟩
    refine g_tabOut 7 O 87 dX6_hearerNow_7 (c0.elim Or.inl (fun q => Or.inr (Int.lt_trans (by decide) q))) (by decide) ?_
    refine g_aload_n 87 O dX6_hearerNow_87 rfl 1 rfl ?_
    refine g_get 88 O (v := .ref (a 9)) inX6 0 rfl rfl 13 (by decide) kf_X6_34 rfl dX6_hearerNow_88 ?_
    refine g_iload_n 91 O dX6_hearerNow_91 rfl 2 rfl ?_
    refine g_iald 92 O 9 p rfl (hp) (by have := hh.2.1; omega) (by decide) dX6_hearerNow_92 ?_
    refine g_si (hr.2.2.2.2 p) ((hh.2.2 p hp0).2.2.2) ?_
    exact g_iret 93 O dX6_hearerNow_93 (by rw [hP0, aN, if_neg c5.1, if_neg c5.2.1, if_neg c5.2.2.1, if_neg c5.2.2.2.1, if_neg c5.2.2.2.2]; exact ⟨rfl, rfl⟩)

set_option maxRecDepth 100000 in
set_option maxHeartbeats 4000000 in
theorem c_X6_some (l : Launch) (E : Ev) (a : Nat → Nat) (mw msd mn mon mhn mrd mtn mad mpn : Int32) (se wo jf ow oj kf ff vf cf tf pb : Nat → Int32) (fat whl nw : Int32) (nwd njn : Nat → Int32) (rd : Int32) (so vl : Nat → Int64) (jg : Nat → Int32) (tko : Nat → Int32) (sdn hh_ : Int64) (ik kw kh kr kt : Int32) (kc ko : Nat → Int32) (y : Sy) (z : Nat → Nat) (hy4 : y.1 ≤ 4) (hrd : rd = nI (NR y)) (hso : ∀ r, r < NR y → so r = TR z y r) : Ctr l yX6_some cX6_some 4 (some .long) 0 0 E (wM E a) [.ref (a 0)] (((mw, msd, mn, mon, mhn, mrd, mtn, mad, mpn), (se, wo, jf, ow, oj, kf, ff, vf, cf, tf, pb), (fat, whl, nw, nwd, njn), (rd, so, vl, jg), tko, (sdn, hh_), (ik, kw, kh, kr, kt, kc, ko))) (fun v8 s8 => v8 = some (.long (som z y)) ∧ s8 = ((mw, msd, mn, mon, mhn, mrd, mtn, mad, mpn), (se, wo, jf, ow, oj, kf, ff, vf, cf, tf, pb), (fat, whl, nw, nwd, njn), (rd, so, vl, jg), tko, (sdn, hh_), (ik, kw, kh, kr, kt, kc, ko))) := by
  refine Ctr.of' (by decide +kernel) (Nat.le_of_ble_eq_true rfl) (fun X P0 hP0 O => ?_)
  refine g_sub [0] (lv' := [(0, .ref (a 0))]) rfl ?_
  have hN := NR_le hy4
  refine g_lconst 0 O (v := 0) dX6_some_0 (by decide) ?_
  refine g_lstore_n 1 O (lv' := [(1, .long 0), (0, .ref (a 0))]) dX6_some_1 rfl (by decide) rfl ?_
  refine g_iconst 2 O (v := 0) dX6_some_2 (by decide) ?_
  refine g_istore_n 3 O (lv' := [(3, .int 0), (1, .long 0), (0, .ref (a 0))]) dX6_some_3 rfl (by decide) rfl ?_
  refine g_sub [0, 1, 2] (lv' := [(3, .int 0), (1, .long 0), (0, .ref (a 0))]) rfl ?_
  have L4 : ∀ (fuel : Nat) (k : Nat) (hk : k ≤ NR y), NR y - k < fuel → G l E (wM E a) P0 X 4 (((mw, msd, mn, mon, mhn, mrd, mtn, mad, mpn), (se, wo, jf, ow, oj, kf, ff, vf, cf, tf, pb), (fat, whl, nw, nwd, njn), (rd, so, vl, jg), tko, (sdn, hh_), (ik, kw, kh, kr, kt, kc, ko))) 4 [(3, .int (nI k)), (1, .long (orN (TR z y) k)), (0, .ref (a 0))] [] := by
    intro fuel
    induction fuel with
    | zero => intro k hk hfu; exact absurd hfu (Nat.not_lt_zero _)
    | succ fuel ih4 =>
      intro k hk hfu
      refine g_iload_n 4 O dX6_some_4 rfl 0 rfl ?_
      refine g_aload_n 5 O dX6_some_5 rfl 2 rfl ?_
      refine g_get 6 O (v := .int rd) inX6 0 rfl rfl 25 (by decide) kf_X6_110 rfl dX6_some_6 ?_
      refine g_si (nI (NR y)) (hrd) ?_
      refine g_icmp_ge 9 O 27 dX6_some_9 (by decide) (fun h9 => ?_) (fun h9 => ?_)
      · -- taken
        have e : k = NR y := by have := ge_of_le (by omega) (by omega) h9; omega
        subst e
        refine g_lload_n 27 O dX6_some_27 rfl 1 rfl ?_
        exact g_lret 28 O dX6_some_28 (by rw [hP0]; exact ⟨rfl, rfl⟩)
      · -- not taken
        have hlt : k < NR y := lt_of_nge (by omega) h9
        refine g_lload_n 12 O dX6_some_12 rfl 1 rfl ?_
        refine g_aload_n 13 O dX6_some_13 rfl 2 rfl ?_
        refine g_get 14 O (v := .ref (a 14)) inX6 0 rfl rfl 26 (by decide) kf_X6_50 rfl dX6_some_14 ?_
        refine g_iload_n 17 O dX6_some_17 rfl 0 rfl ?_
        refine g_lald 18 O 14 k rfl (rfl) (by omega) (by decide) dX6_some_18 ?_
        refine g_sl (TR z y k) (hso k hlt) ?_
        refine g_lor 19 O dX6_some_19 ?_
        refine g_lstore_n 20 O (lv' := [(1, .long ((orN (TR z y) k) ||| (TR z y k))), (3, .int (nI k)), (0, .ref (a 0))]) dX6_some_20 rfl (by decide) rfl ?_
        refine g_iinc 21 O (v := nI (k + 1)) (q := 1) (lv' := [(3, .int (nI (k + 1))), (1, .long ((orN (TR z y) k) ||| (TR z y k))), (0, .ref (a 0))]) dX6_some_21 rfl (nI_1 k) (by decide) rfl ?_
        refine g_goto 24 O 4 dX6_some_24 (by decide) ?_
        refine g_sub [0, 1, 2] (lv' := [(3, .int (nI (k + 1))), (1, .long ((orN (TR z y) k) ||| (TR z y k))), (0, .ref (a 0))]) rfl ?_
        exact ih4 (k + 1) (by omega) (by omega)
  exact L4 _ 0 (Nat.zero_le _) (Nat.lt_succ_self _)

set_option maxRecDepth 100000 in
set_option maxHeartbeats 4000000 in
theorem c_X6_comeNow (l : Launch) (E : Ev) (a : Nat → Nat) (mw msd mn mon mhn mrd mtn mad mpn : Int32) (se wo jf ow oj kf ff vf cf tf pb : Nat → Int32) (fat whl nw : Int32) (nwd njn : Nat → Int32) (rd : Int32) (so vl : Nat → Int64) (jg : Nat → Int32) (tko : Nat → Int32) (sdn hh_ : Int64) (ik kw kh kr kt : Int32) (kc ko : Nat → Int32) (p0 : Int32) (y : Sy) (z : Nat → Nat) (hy4 : y.1 ≤ 4) (hrd : rd = nI (NR y)) (hso : ∀ r, r < NR y → so r = TR z y r) (wn : Nat) (hwn : mw = nI wn) (hwn0 : wn < 64) : Ctr l yX6_comeNow cX6_comeNow 6 (some .int) 1 22 E (wM E a) [.ref (a 0), .int p0] (((mw, msd, mn, mon, mhn, mrd, mtn, mad, mpn), (se, wo, jf, ow, oj, kf, ff, vf, cf, tf, pb), (fat, whl, nw, nwd, njn), (rd, so, vl, jg), tko, (sdn, hh_), (ik, kw, kh, kr, kt, kc, ko))) (fun v8 s8 => v8 = some (.int (comN z y wn p0)) ∧ s8 = ((mw, msd, mn, mon, mhn, mrd, mtn, mad, mpn), (se, wo, jf, ow, oj, kf, ff, vf, cf, tf, pb), (fat, whl, nw, nwd, njn), (rd, so, vl, jg), tko, (sdn, hh_), (ik, kw, kh, kr, kt, kc, ko))) := by
  refine Ctr.of' (by decide +kernel) (Nat.le_of_ble_eq_true rfl) (fun X P0 hP0 O => ?_)
  refine g_sub [0, 1] (lv' := [(0, .ref (a 0)), (1, .int p0)]) rfl ?_
  have hN := NR_le hy4
  refine g_iconst 0 O (v := 0) dX6_comeNow_0 (by decide) ?_
  refine g_istore_n 1 O (lv' := [(2, .int 0), (0, .ref (a 0)), (1, .int p0)]) dX6_comeNow_1 rfl (by decide) rfl ?_
  refine g_iconst 2 O (v := (-1)) dX6_comeNow_2 (by decide) ?_
  refine g_istore_n 3 O (lv' := [(3, .int ((-1))), (2, .int 0), (0, .ref (a 0)), (1, .int p0)]) dX6_comeNow_3 rfl (by decide) rfl ?_
  refine g_iconst 4 O (v := 0) dX6_comeNow_4 (by decide) ?_
  refine g_istore 5 O (lv' := [(4, .int 0), (3, .int ((-1))), (2, .int 0), (0, .ref (a 0)), (1, .int p0)]) dX6_comeNow_5 (by decide) rfl ?_
  refine g_sub [0, 1, 2, 3, 4] (lv' := [(4, .int 0), (3, .int ((-1))), (2, .int 0), (0, .ref (a 0)), (1, .int p0)]) rfl ?_
  have L7 : ∀ (fuel : Nat) (k : Nat) (hk : k ≤ NR y), NR y - k < fuel → G l E (wM E a) P0 X 6 (((mw, msd, mn, mon, mhn, mrd, mtn, mad, mpn), (se, wo, jf, ow, oj, kf, ff, vf, cf, tf, pb), (fat, whl, nw, nwd, njn), (rd, so, vl, jg), tko, (sdn, hh_), (ik, kw, kh, kr, kt, kc, ko))) 7 [(4, .int (nI k)), (3, .int (fi (fun r => tb (TR z y r) wn) k)), (2, .int (nI (cn (fun r => tb (TR z y r) wn) k))), (0, .ref (a 0)), (1, .int p0)] [] := by
    intro fuel
    induction fuel with
    | zero => intro k hk hfu; exact absurd hfu (Nat.not_lt_zero _)
    | succ fuel ih7 =>
      intro k hk hfu
      refine g_iload 7 O dX6_comeNow_7 0 rfl ?_
      refine g_aload_n 9 O dX6_comeNow_9 rfl 3 rfl ?_
      refine g_get 10 O (v := .int rd) inX6 0 rfl rfl 25 (by decide) kf_X6_110 rfl dX6_comeNow_10 ?_
      refine g_si (nI (NR y)) (hrd) ?_
      refine g_icmp_ge 13 O 68 dX6_comeNow_13 (by decide) (fun h13 => ?_) (fun h13 => ?_)
      · -- taken
        have e : k = NR y := by have := ge_of_le (by omega) (by omega) h13; omega
        subst e
        refine g_iload_n 68 O dX6_comeNow_68 rfl 4 rfl ?_
        refine g_if_ne 69 O 76 dX6_comeNow_69 (by decide) (fun h69 => ?_) (fun h69 => ?_)
        · -- taken
          refine g_iload_n 76 O dX6_comeNow_76 rfl 1 rfl ?_
          exact g_iret 77 O dX6_comeNow_77 (by rw [hP0, comN, if_neg h69]; exact ⟨rfl, rfl⟩)
        · -- not taken
          refine g_iload_n 72 O dX6_comeNow_72 rfl 2 rfl ?_
          refine g_goto 73 O 77 dX6_comeNow_73 (by decide) ?_
          exact g_iret 77 O dX6_comeNow_77 (by rw [hP0, comN, if_pos h69]; exact ⟨rfl, rfl⟩)
      · -- not taken
        have hlt : k < NR y := lt_of_nge (by omega) h13
        refine g_aload_n 16 O dX6_comeNow_16 rfl 3 rfl ?_
        refine g_get 17 O (v := .ref (a 14)) inX6 0 rfl rfl 26 (by decide) kf_X6_50 rfl dX6_comeNow_17 ?_
        refine g_iload 20 O dX6_comeNow_20 0 rfl ?_
        refine g_lald 22 O 14 k rfl (rfl) (by omega) (by decide) dX6_comeNow_22 ?_
        refine g_sl (TR z y k) (hso k hlt) ?_
        refine g_aload_n 23 O dX6_comeNow_23 rfl 3 rfl ?_
        refine g_get 24 O (v := .int mw) inX6 0 rfl rfl 0 (by decide) kf_X6_162 rfl dX6_comeNow_24 ?_
        refine g_callS 27 O (na := 2) (av := [.long (TR z y k), .int mw]) (c_X6_isIn l E _ _ (TR z y k) mw wn hwn hwn0) kl_X6_158 ks_X6_isIn ki_X6 kc_X6_isIn (by decide +kernel) rfl (Nat.le_of_ble_eq_true rfl) (Nat.le_of_ble_eq_true rfl) (fun _ h => h) (fun s => s) (fun _ _ _ _ h => h) rfl (Nat.le_of_ble_eq_true rfl) dX6_comeNow_27 (fun v9 s9 hv9 => ?_)
        obtain ⟨rfl, rfl⟩ := hv9
        refine g_istore 30 O (lv' := [(5, .int (bi (tb (TR z y k) wn))), (4, .int (nI k)), (3, .int (fi (fun r => tb (TR z y r) wn) k)), (2, .int (nI (cn (fun r => tb (TR z y r) wn) k))), (0, .ref (a 0)), (1, .int p0)]) dX6_comeNow_30 (by decide) rfl ?_
        refine g_iload_n 32 O dX6_comeNow_32 rfl 3 rfl ?_
        refine g_iload 33 O dX6_comeNow_33 0 rfl ?_
        refine g_if_eq 35 O 42 dX6_comeNow_35 (by decide) (fun h35 => ?_) (fun h35 => ?_)
        · -- taken
          refine g_iconst 42 O (v := 0) dX6_comeNow_42 (by decide) ?_
          refine g_iadd 43 O dX6_comeNow_43 ?_
          refine g_si (nI (cn (fun r => tb (TR z y r) wn) (k + 1))) (cn_f (p := (fun r => tb (TR z y r) wn)) (bi_f h35)) ?_
          refine g_istore_n 44 O (lv' := [(2, .int (nI (cn (fun r => tb (TR z y r) wn) (k + 1)))), (5, .int (bi (tb (TR z y k) wn))), (4, .int (nI k)), (3, .int (fi (fun r => tb (TR z y r) wn) k)), (0, .ref (a 0)), (1, .int p0)]) dX6_comeNow_44 rfl (by decide) rfl ?_
          refine g_iload 45 O dX6_comeNow_45 1 rfl ?_
          refine g_if_eq 47 O 60 dX6_comeNow_47 (by decide) (fun h47 => ?_) (fun h47 => False.elim (h47 h35))
          refine g_iload_n 60 O dX6_comeNow_60 rfl 3 rfl ?_
          refine g_si (fi (fun r => tb (TR z y r) wn) (k + 1)) (fi_s2 (p := (fun r => tb (TR z y r) wn)) (bi_f h47)) ?_
          refine g_istore_n 61 O (lv' := [(3, .int (fi (fun r => tb (TR z y r) wn) (k + 1))), (2, .int (nI (cn (fun r => tb (TR z y r) wn) (k + 1)))), (5, .int (bi (tb (TR z y k) wn))), (4, .int (nI k)), (0, .ref (a 0)), (1, .int p0)]) dX6_comeNow_61 rfl (by decide) rfl ?_
          refine g_iinc 62 O (v := nI (k + 1)) (q := 3) (lv' := [(4, .int (nI (k + 1))), (3, .int (fi (fun r => tb (TR z y r) wn) (k + 1))), (2, .int (nI (cn (fun r => tb (TR z y r) wn) (k + 1)))), (5, .int (bi (tb (TR z y k) wn))), (0, .ref (a 0)), (1, .int p0)]) dX6_comeNow_62 rfl (nI_1 k) (by decide) rfl ?_
          refine g_goto 65 O 7 dX6_comeNow_65 (by decide) ?_
          refine g_sub [0, 1, 2, 4, 5] (lv' := [(4, .int (nI (k + 1))), (3, .int (fi (fun r => tb (TR z y r) wn) (k + 1))), (2, .int (nI (cn (fun r => tb (TR z y r) wn) (k + 1)))), (0, .ref (a 0)), (1, .int p0)]) rfl ?_
          exact ih7 (k + 1) (by omega) (by omega)
        · -- not taken
          refine g_iconst 38 O (v := 1) dX6_comeNow_38 (by decide) ?_
          refine g_goto 39 O 43 dX6_comeNow_39 (by decide) ?_
          refine g_iadd 43 O dX6_comeNow_43 ?_
          refine g_si (nI (cn (fun r => tb (TR z y r) wn) (k + 1))) (cn_t (p := (fun r => tb (TR z y r) wn)) (bi_t h35)) ?_
          refine g_istore_n 44 O (lv' := [(2, .int (nI (cn (fun r => tb (TR z y r) wn) (k + 1)))), (5, .int (bi (tb (TR z y k) wn))), (4, .int (nI k)), (3, .int (fi (fun r => tb (TR z y r) wn) k)), (0, .ref (a 0)), (1, .int p0)]) dX6_comeNow_44 rfl (by decide) rfl ?_
          refine g_iload 45 O dX6_comeNow_45 1 rfl ?_
          refine g_if_eq 47 O 60 dX6_comeNow_47 (by decide) (fun h47 => False.elim (h35 h47)) (fun h47 => ?_)
          refine g_iload_n 50 O dX6_comeNow_50 rfl 3 rfl ?_
          refine g_iconst 51 O (v := (-1)) dX6_comeNow_51 (by decide) ?_
          refine g_icmp_ne 52 O 60 dX6_comeNow_52 (by decide) (fun h52 => ?_) (fun h52 => ?_)
          · -- taken
            refine g_iload_n 60 O dX6_comeNow_60 rfl 3 rfl ?_
            refine g_si (fi (fun r => tb (TR z y r) wn) (k + 1)) (fi_s1 (p := (fun r => tb (TR z y r) wn)) (by omega) (bi_t h47) h52) ?_
            refine g_istore_n 61 O (lv' := [(3, .int (fi (fun r => tb (TR z y r) wn) (k + 1))), (2, .int (nI (cn (fun r => tb (TR z y r) wn) (k + 1)))), (5, .int (bi (tb (TR z y k) wn))), (4, .int (nI k)), (0, .ref (a 0)), (1, .int p0)]) dX6_comeNow_61 rfl (by decide) rfl ?_
            refine g_iinc 62 O (v := nI (k + 1)) (q := 3) (lv' := [(4, .int (nI (k + 1))), (3, .int (fi (fun r => tb (TR z y r) wn) (k + 1))), (2, .int (nI (cn (fun r => tb (TR z y r) wn) (k + 1)))), (5, .int (bi (tb (TR z y k) wn))), (0, .ref (a 0)), (1, .int p0)]) dX6_comeNow_62 rfl (nI_1 k) (by decide) rfl ?_
            refine g_goto 65 O 7 dX6_comeNow_65 (by decide) ?_
            refine g_sub [0, 1, 2, 4, 5] (lv' := [(4, .int (nI (k + 1))), (3, .int (fi (fun r => tb (TR z y r) wn) (k + 1))), (2, .int (nI (cn (fun r => tb (TR z y r) wn) (k + 1)))), (0, .ref (a 0)), (1, .int p0)]) rfl ?_
            exact ih7 (k + 1) (by omega) (by omega)
          · -- not taken
            refine g_iload 55 O dX6_comeNow_55 2 rfl ?_
            refine g_goto 57 O 61 dX6_comeNow_57 (by decide) ?_
            refine g_si (fi (fun r => tb (TR z y r) wn) (k + 1)) (fi_s0 (p := (fun r => tb (TR z y r) wn)) (by omega) (bi_t h47) h52) ?_
            refine g_istore_n 61 O (lv' := [(3, .int (fi (fun r => tb (TR z y r) wn) (k + 1))), (2, .int (nI (cn (fun r => tb (TR z y r) wn) (k + 1)))), (5, .int (bi (tb (TR z y k) wn))), (4, .int (nI k)), (0, .ref (a 0)), (1, .int p0)]) dX6_comeNow_61 rfl (by decide) rfl ?_
            refine g_iinc 62 O (v := nI (k + 1)) (q := 3) (lv' := [(4, .int (nI (k + 1))), (3, .int (fi (fun r => tb (TR z y r) wn) (k + 1))), (2, .int (nI (cn (fun r => tb (TR z y r) wn) (k + 1)))), (5, .int (bi (tb (TR z y k) wn))), (0, .ref (a 0)), (1, .int p0)]) dX6_comeNow_62 rfl (nI_1 k) (by decide) rfl ?_
            refine g_goto 65 O 7 dX6_comeNow_65 (by decide) ?_
            refine g_sub [0, 1, 2, 4, 5] (lv' := [(4, .int (nI (k + 1))), (3, .int (fi (fun r => tb (TR z y r) wn) (k + 1))), (2, .int (nI (cn (fun r => tb (TR z y r) wn) (k + 1)))), (0, .ref (a 0)), (1, .int p0)]) rfl ?_
            exact ih7 (k + 1) (by omega) (by omega)
  exact L7 _ 0 (Nat.zero_le _) (Nat.lt_succ_self _)
