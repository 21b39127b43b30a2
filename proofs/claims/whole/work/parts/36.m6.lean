theorem fpd_f {q : Nat → Bool} {j : Nat} (h : decide (fp q j = j) = false) : false = decide (fp q (j + 1) = j + 1) := by
  have h1 : ¬ fp q j = j := of_decide_eq_false h
  have := fp_le q j
  rw [fp, if_neg (fun x => h1 x.1)]
  exact (decide_eq_false (by omega)).symm
theorem fpd_x {q : Nat → Bool} {j : Nat} (h : q j = false) : false = decide (fp q (j + 1) = j + 1) := by
  have := fp_le q j
  rw [fp, if_neg (fun x => by rw [h] at x; exact absurd x.2 (by decide))]
  exact (decide_eq_false (by omega)).symm
theorem fpd_t {q : Nat → Bool} {j : Nat} (h : decide (fp q j = j) = true) (hq : q j = true) : true = decide (fp q (j + 1) = j + 1) := by
  rw [fp, if_pos ⟨of_decide_eq_true h, hq⟩]
  exact (decide_eq_true rfl).symm
def xB (f : Nat → Nat) (k : Nat) : Int32 := if k = 0 then -1 else nI (mx f k)
def xM (f : Nat → Nat) (k : Nat) : Int32 := if k = 0 then -1 else nI (f (mx f k))
theorem mxS {f : Nat → Nat} {k : Nat} (hb : ∀ k, f k ≤ 640) (q : ¬ nI (f k) ≤ xM f k) : mx f (k + 1) = k := by
  rcases Nat.eq_zero_or_pos k with e | e
  · subst e; exact mx_1 f
  · rw [xM, if_neg (by omega)] at q
    rw [mx, if_pos (lt_of_nge (by have := hb (mx f k); omega) q)]
theorem mxK {f : Nat → Nat} {k : Nat} (hb : ∀ k, f k ≤ 640) (q : nI (f k) ≤ xM f k) : 0 < k ∧ mx f (k + 1) = mx f k := by
  rcases Nat.eq_zero_or_pos k with e | e
  · subst e
    rw [xM, if_pos rfl, Int32.le_iff_toInt_le, nI_toInt (by have := hb 0; omega)] at q
    have e : ((-1 : Int32)).toInt = -1 := by decide
    rw [e] at q; omega
  · rw [xM, if_neg (by omega)] at q
    have := ge_of_le (by have := hb (mx f k); omega) (by have := hb k; omega) q
    exact ⟨e, by rw [mx, if_neg (by omega)]⟩
theorem xB_t {f : Nat → Nat} {k : Nat} (hb : ∀ k, f k ≤ 640) (q : ¬ nI (f k) ≤ xM f k) : nI k = xB f (k + 1) := by rw [xB, if_neg (by omega), mxS hb q]
theorem xM_t {f : Nat → Nat} {k : Nat} (hb : ∀ k, f k ≤ 640) (q : ¬ nI (f k) ≤ xM f k) : nI (f k) = xM f (k + 1) := by rw [xM, if_neg (by omega), mxS hb q]
theorem xB_f {f : Nat → Nat} {k : Nat} (hb : ∀ k, f k ≤ 640) (q : nI (f k) ≤ xM f k) : xB f k = xB f (k + 1) := by
  have h := mxK hb q
  rw [xB, xB, if_neg (by omega), if_neg (by omega), h.2]
theorem xM_f {f : Nat → Nat} {k : Nat} (hb : ∀ k, f k ≤ 640) (q : nI (f k) ≤ xM f k) : xM f k = xM f (k + 1) := by
  have h := mxK hb q
  rw [xM, xM, if_neg (by omega), if_neg (by omega), h.2]
theorem ad_ok : ∀ c, c < 24 → 2 * (nI c - nI c / 6 * 6) + (nI c / 6 - nI c / 6 / 2 * 2) = nI (2 * (c % 6) + c / 6 % 2) ∧ c / 6 % 2 = (decide (6 ≤ c % 12)).toNat ∧ nI (c / 12) = bi (decide (12 ≤ c)) ∧ nI c / 12 = nI (c / 12) := by decide +kernel
theorem YM_yw {w j : Nat → Int32} {y : Sy} {c : Nat} (h4 : y.1 < 4) (h1 : ¬ y.1 = 0) (hc : c < 24) (h : YM w j y) : YM (upd w y.1 (nI (2 * (c % 6) + c / 6 % 2))) (upd j (y.1 - 1) (nI (c / 12))) (yw y c) := by
  have ha := ad_ok c hc
  refine ⟨h4, fun k hk => ?_, fun k hk => ?_⟩
  · have hk : k < y.1 + 1 := hk
    show upd w y.1 (nI (2 * (c % 6) + c / 6 % 2)) k = nI (2 * (if k = y.1 then c % 6 else y.2.1 k) + (if k = y.1 then decide (6 ≤ c % 12) else y.2.2.1 k).toNat) ∧ (if k = y.1 then c % 6 else y.2.1 k) < 6
    by_cases e : k = y.1
    · subst e
      simp only [upd_s, if_true]
      rw [ha.2.1]
      exact ⟨rfl, Nat.mod_lt _ (by decide)⟩
    · rw [upd_n _ _ e, if_neg e, if_neg e]
      exact h.2.1 k (by omega)
  · have hk : k + 1 < y.1 + 1 := hk
    show upd j (y.1 - 1) (nI (c / 12)) k = bi (if k + 1 = y.1 then decide (12 ≤ c) else y.2.2.2 (k + 1))
    by_cases e : k + 1 = y.1
    · rw [if_pos e, show k = y.1 - 1 by omega, upd_s]; exact ha.2.2.1
    · rw [if_neg e, upd_n _ _ (by omega)]
      exact h.2.2 k (by omega)
theorem YM_un {w j : Nat → Int32} {y : Sy} {c : Nat} (h : YM w j (yw y c)) : YM w j y := by
  have h4 : y.1 + 1 ≤ 4 := h.1
  refine ⟨by omega, fun k hk => ?_, fun k hk => ?_⟩
  · have := h.2.1 k (show k < y.1 + 1 by omega)
    have this : w k = nI (2 * (if k = y.1 then c % 6 else y.2.1 k) + (if k = y.1 then decide (6 ≤ c % 12) else y.2.2.1 k).toNat) ∧ (if k = y.1 then c % 6 else y.2.1 k) < 6 := this
    rw [if_neg (by omega), if_neg (by omega)] at this
    exact this
  · have := h.2.2 k (show k + 1 < y.1 + 1 by omega)
    have this : j k = bi (if k + 1 = y.1 then decide (12 ≤ c) else y.2.2.2 (k + 1)) := this
    rw [if_neg (by omega)] at this
    exact this

set_option maxRecDepth 100000 in
set_option maxHeartbeats 4000000 in
theorem c_X6_fitsNow (l : Launch) (E : Ev) (a : Nat → Nat) (mw msd mn mon mhn mrd mtn mad mpn : Int32) (se wo jf ow oj kf ff vf cf tf pb : Nat → Int32) (fat whl nw : Int32) (nwd njn : Nat → Int32) (rd : Int32) (so vl : Nat → Int64) (jg : Nat → Int32) (tko : Nat → Int32) (sdn hh_ : Int64) (ik kw kh kr kt : Int32) (kc ko : Nat → Int32) (p0 p1 : Int32) (y : Sy) (z : Nat → Nat) (hy4 : y.1 ≤ 4) (hrd : rd = nI (NR y)) (hso : ∀ r, r < NR y → so r = TR z y r) (hr : Hr) (hh : HrW (mhn, kf, ff, vf, cf) hr) (p : Nat) (hp : p0 = nI p) (hp0 : p < hr.1) (t : Tl) (ht : TlW (mtn, tf) t) : Ctr l yX6_fitsNow cX6_fitsNow 8 (some .int) 3 68 E (wM E a) [.ref (a 0), .int p0, .int p1] (((mw, msd, mn, mon, mhn, mrd, mtn, mad, mpn), (se, wo, jf, ow, oj, kf, ff, vf, cf, tf, pb), (fat, whl, nw, nwd, njn), (rd, so, vl, jg), tko, (sdn, hh_), (ik, kw, kh, kr, kt, kc, ko))) (fun v8 s8 => v8 = some (.int (fitN z y hr t p p1)) ∧ s8 = ((mw, msd, mn, mon, mhn, mrd, mtn, mad, mpn), (se, wo, jf, ow, oj, kf, ff, vf, cf, tf, pb), (fat, whl, nw, nwd, njn), (rd, so, vl, jg), tko, (sdn, hh_), (ik, kw, kh, kr, kt, kc, ko))) := by
  refine Ctr.of' (by decide +kernel) (Nat.le_of_ble_eq_true rfl) (fun X P0 hP0 O => ?_)
  refine g_sub [0, 1, 2] (lv' := [(0, .ref (a 0)), (1, .int p0), (2, .int p1)]) rfl ?_
  have hN := NR_le hy4
  have ht6 := ht.2.1
  refine g_iconst 0 O (v := 0) dX6_fitsNow_0 (by decide) ?_
  refine g_istore_n 1 O (lv' := [(3, .int 0), (0, .ref (a 0)), (1, .int p0), (2, .int p1)]) dX6_fitsNow_1 rfl (by decide) rfl ?_
  refine g_iconst 2 O (v := (-1)) dX6_fitsNow_2 (by decide) ?_
  refine g_istore 3 O (lv' := [(4, .int ((-1))), (3, .int 0), (0, .ref (a 0)), (1, .int p0), (2, .int p1)]) dX6_fitsNow_3 (by decide) rfl ?_
  refine g_iconst 5 O (v := 0) dX6_fitsNow_5 (by decide) ?_
  refine g_istore 6 O (lv' := [(5, .int 0), (4, .int ((-1))), (3, .int 0), (0, .ref (a 0)), (1, .int p0), (2, .int p1)]) dX6_fitsNow_6 (by decide) rfl ?_
  refine g_sub [0, 1, 2, 3, 4, 5] (lv' := [(5, .int 0), (4, .int ((-1))), (3, .int 0), (0, .ref (a 0)), (1, .int p0), (2, .int p1)]) rfl ?_
  have L8 : ∀ (fuel : Nat) (k : Nat) (hk : k ≤ NR y), NR y - k < fuel → G l E (wM E a) P0 X 8 (((mw, msd, mn, mon, mhn, mrd, mtn, mad, mpn), (se, wo, jf, ow, oj, kf, ff, vf, cf, tf, pb), (fat, whl, nw, nwd, njn), (rd, so, vl, jg), tko, (sdn, hh_), (ik, kw, kh, kr, kt, kc, ko))) 8 [(5, .int (nI k)), (4, .int (fi (fun r => fitB hr t p (TR z y r)) k)), (3, .int (nI (cn (fun r => fitB hr t p (TR z y r)) k))), (0, .ref (a 0)), (1, .int p0), (2, .int p1)] [] := by
    intro fuel
    induction fuel with
    | zero => intro k hk hfu; exact absurd hfu (Nat.not_lt_zero _)
    | succ fuel ih8 =>
      intro k hk hfu
      refine g_iload 8 O dX6_fitsNow_8 0 rfl ?_
      refine g_aload_n 10 O dX6_fitsNow_10 rfl 3 rfl ?_
      refine g_get 11 O (v := .int rd) inX6 0 rfl rfl 25 (by decide) kf_X6_110 rfl dX6_fitsNow_11 ?_
      refine g_si (nI (NR y)) (hrd) ?_
      refine g_icmp_ge 14 O 115 dX6_fitsNow_14 (by decide) (fun h14 => ?_) (fun h14 => ?_)
      · -- taken
        have e : k = NR y := by have := ge_of_le (by omega) (by omega) h14; omega
        subst e
        refine g_iload_n 115 O dX6_fitsNow_115 rfl 5 rfl ?_
        refine g_if_ne 116 O 123 dX6_fitsNow_116 (by decide) (fun h116 => ?_) (fun h116 => ?_)
        · -- taken
          refine g_iload 123 O dX6_fitsNow_123 1 rfl ?_
          exact g_iret 125 O dX6_fitsNow_125 (by rw [hP0, fitN, if_neg h116]; exact ⟨rfl, rfl⟩)
        · -- not taken
          refine g_iload_n 119 O dX6_fitsNow_119 rfl 2 rfl ?_
          refine g_goto 120 O 125 dX6_fitsNow_120 (by decide) ?_
          exact g_iret 125 O dX6_fitsNow_125 (by rw [hP0, fitN, if_pos h116]; exact ⟨rfl, rfl⟩)
      · -- not taken
        have hlt : k < NR y := lt_of_nge (by omega) h14
        refine g_iconst 17 O (v := 1) dX6_fitsNow_17 (by decide) ?_
        refine g_si (bi (decide (fp (fun m => decide (bh hr p (TR z y k) (t.2 m) = t.2 (m + 1))) 0 = 0))) (rfl) ?_
        refine g_istore 18 O (lv' := [(6, .int (bi (decide (fp (fun m => decide (bh hr p (TR z y k) (t.2 m) = t.2 (m + 1))) 0 = 0)))), (5, .int (nI k)), (4, .int (fi (fun r => fitB hr t p (TR z y r)) k)), (3, .int (nI (cn (fun r => fitB hr t p (TR z y r)) k))), (0, .ref (a 0)), (1, .int p0), (2, .int p1)]) dX6_fitsNow_18 (by decide) rfl ?_
        refine g_iconst 20 O (v := 1) dX6_fitsNow_20 (by decide) ?_
        refine g_istore 21 O (lv' := [(7, .int 1), (6, .int (bi (decide (fp (fun m => decide (bh hr p (TR z y k) (t.2 m) = t.2 (m + 1))) 0 = 0)))), (5, .int (nI k)), (4, .int (fi (fun r => fitB hr t p (TR z y r)) k)), (3, .int (nI (cn (fun r => fitB hr t p (TR z y r)) k))), (0, .ref (a 0)), (1, .int p0), (2, .int p1)]) dX6_fitsNow_21 (by decide) rfl ?_
        refine g_sub [0, 1, 2, 3, 4, 5, 6, 7] (lv' := [(7, .int 1), (6, .int (bi (decide (fp (fun m => decide (bh hr p (TR z y k) (t.2 m) = t.2 (m + 1))) 0 = 0)))), (5, .int (nI k)), (4, .int (fi (fun r => fitB hr t p (TR z y r)) k)), (3, .int (nI (cn (fun r => fitB hr t p (TR z y r)) k))), (0, .ref (a 0)), (1, .int p0), (2, .int p1)]) rfl ?_
        have L23 : ∀ (fuel : Nat) (j : Nat) (hj : j ≤ t.1 - 1), t.1 - j < fuel → G l E (wM E a) P0 X 8 (((mw, msd, mn, mon, mhn, mrd, mtn, mad, mpn), (se, wo, jf, ow, oj, kf, ff, vf, cf, tf, pb), (fat, whl, nw, nwd, njn), (rd, so, vl, jg), tko, (sdn, hh_), (ik, kw, kh, kr, kt, kc, ko))) 23 [(7, .int (nI (j + 1))), (6, .int (bi (decide (fp (fun m => decide (bh hr p (TR z y k) (t.2 m) = t.2 (m + 1))) j = j)))), (5, .int (nI k)), (4, .int (fi (fun r => fitB hr t p (TR z y r)) k)), (3, .int (nI (cn (fun r => fitB hr t p (TR z y r)) k))), (0, .ref (a 0)), (1, .int p0), (2, .int p1)] [] := by
          intro fuel
          induction fuel with
          | zero => intro j hj hfu; exact absurd hfu (Nat.not_lt_zero _)
          | succ fuel ih23 =>
            intro j hj hfu
            refine g_iload 23 O dX6_fitsNow_23 0 rfl ?_
            refine g_aload_n 25 O dX6_fitsNow_25 rfl 5 rfl ?_
            refine g_get 26 O (v := .int mtn) inX6 0 rfl rfl 15 (by decide) kf_X6_226 rfl dX6_fitsNow_26 ?_
            refine g_si (nI t.1) (ht.1) ?_
            refine g_icmp_ge 29 O 76 dX6_fitsNow_29 (by decide) (fun h29 => ?_) (fun h29 => ?_)
            · -- taken
              have e : j = t.1 - 1 := by have := ge_of_le (by omega) (by omega) h29; omega
              rw [show (bi (decide (fp (fun m => decide (bh hr p (TR z y k) (t.2 m) = t.2 (m + 1))) j = j)) : Int32) = bi (fitB hr t p (TR z y k)) from by rw [fitB, e]]
              refine g_iload_n 76 O dX6_fitsNow_76 rfl 4 rfl ?_
              refine g_iload 77 O dX6_fitsNow_77 1 rfl ?_
              refine g_if_eq 79 O 86 dX6_fitsNow_79 (by decide) (fun h79 => ?_) (fun h79 => ?_)
              · -- taken
                refine g_iconst 86 O (v := 0) dX6_fitsNow_86 (by decide) ?_
                refine g_iadd 87 O dX6_fitsNow_87 ?_
                refine g_si (nI (cn (fun r => fitB hr t p (TR z y r)) (k + 1))) (cn_f (p := (fun r => fitB hr t p (TR z y r))) (bi_f h79)) ?_
                refine g_istore_n 88 O (lv' := [(3, .int (nI (cn (fun r => fitB hr t p (TR z y r)) (k + 1)))), (7, .int (nI (j + 1))), (6, .int (bi (fitB hr t p (TR z y k)))), (5, .int (nI k)), (4, .int (fi (fun r => fitB hr t p (TR z y r)) k)), (0, .ref (a 0)), (1, .int p0), (2, .int p1)]) dX6_fitsNow_88 rfl (by decide) rfl ?_
                refine g_iload 89 O dX6_fitsNow_89 2 rfl ?_
                refine g_if_eq 91 O 105 dX6_fitsNow_91 (by decide) (fun h91 => ?_) (fun h91 => False.elim (h91 h79))
                refine g_iload 105 O dX6_fitsNow_105 4 rfl ?_
                refine g_si (fi (fun r => fitB hr t p (TR z y r)) (k + 1)) (fi_s2 (p := (fun r => fitB hr t p (TR z y r))) (bi_f h91)) ?_
                refine g_istore 107 O (lv' := [(4, .int (fi (fun r => fitB hr t p (TR z y r)) (k + 1))), (3, .int (nI (cn (fun r => fitB hr t p (TR z y r)) (k + 1)))), (7, .int (nI (j + 1))), (6, .int (bi (fitB hr t p (TR z y k)))), (5, .int (nI k)), (0, .ref (a 0)), (1, .int p0), (2, .int p1)]) dX6_fitsNow_107 (by decide) rfl ?_
                refine g_iinc 109 O (v := nI (k + 1)) (q := 4) (lv' := [(5, .int (nI (k + 1))), (4, .int (fi (fun r => fitB hr t p (TR z y r)) (k + 1))), (3, .int (nI (cn (fun r => fitB hr t p (TR z y r)) (k + 1)))), (7, .int (nI (j + 1))), (6, .int (bi (fitB hr t p (TR z y k)))), (0, .ref (a 0)), (1, .int p0), (2, .int p1)]) dX6_fitsNow_109 rfl (nI_1 k) (by decide) rfl ?_
                refine g_goto 112 O 8 dX6_fitsNow_112 (by decide) ?_
                refine g_sub [0, 1, 2, 5, 6, 7] (lv' := [(5, .int (nI (k + 1))), (4, .int (fi (fun r => fitB hr t p (TR z y r)) (k + 1))), (3, .int (nI (cn (fun r => fitB hr t p (TR z y r)) (k + 1)))), (0, .ref (a 0)), (1, .int p0), (2, .int p1)]) rfl ?_
                exact ih8 (k + 1) (by omega) (by omega)
              · -- not taken
                refine g_iconst 82 O (v := 1) dX6_fitsNow_82 (by decide) ?_
                refine g_goto 83 O 87 dX6_fitsNow_83 (by decide) ?_
                refine g_iadd 87 O dX6_fitsNow_87 ?_
                refine g_si (nI (cn (fun r => fitB hr t p (TR z y r)) (k + 1))) (cn_t (p := (fun r => fitB hr t p (TR z y r))) (bi_t h79)) ?_
                refine g_istore_n 88 O (lv' := [(3, .int (nI (cn (fun r => fitB hr t p (TR z y r)) (k + 1)))), (7, .int (nI (j + 1))), (6, .int (bi (fitB hr t p (TR z y k)))), (5, .int (nI k)), (4, .int (fi (fun r => fitB hr t p (TR z y r)) k)), (0, .ref (a 0)), (1, .int p0), (2, .int p1)]) dX6_fitsNow_88 rfl (by decide) rfl ?_
                refine g_iload 89 O dX6_fitsNow_89 2 rfl ?_
                refine g_if_eq 91 O 105 dX6_fitsNow_91 (by decide) (fun h91 => False.elim (h79 h91)) (fun h91 => ?_)
                refine g_iload 94 O dX6_fitsNow_94 4 rfl ?_
                refine g_iconst 96 O (v := (-1)) dX6_fitsNow_96 (by decide) ?_
                refine g_icmp_ne 97 O 105 dX6_fitsNow_97 (by decide) (fun h97 => ?_) (fun h97 => ?_)
                · -- taken
                  refine g_iload 105 O dX6_fitsNow_105 4 rfl ?_
                  refine g_si (fi (fun r => fitB hr t p (TR z y r)) (k + 1)) (fi_s1 (p := (fun r => fitB hr t p (TR z y r))) (by omega) (bi_t h91) h97) ?_
                  refine g_istore 107 O (lv' := [(4, .int (fi (fun r => fitB hr t p (TR z y r)) (k + 1))), (3, .int (nI (cn (fun r => fitB hr t p (TR z y r)) (k + 1)))), (7, .int (nI (j + 1))), (6, .int (bi (fitB hr t p (TR z y k)))), (5, .int (nI k)), (0, .ref (a 0)), (1, .int p0), (2, .int p1)]) dX6_fitsNow_107 (by decide) rfl ?_
                  refine g_iinc 109 O (v := nI (k + 1)) (q := 4) (lv' := [(5, .int (nI (k + 1))), (4, .int (fi (fun r => fitB hr t p (TR z y r)) (k + 1))), (3, .int (nI (cn (fun r => fitB hr t p (TR z y r)) (k + 1)))), (7, .int (nI (j + 1))), (6, .int (bi (fitB hr t p (TR z y k)))), (0, .ref (a 0)), (1, .int p0), (2, .int p1)]) dX6_fitsNow_109 rfl (nI_1 k) (by decide) rfl ?_
                  refine g_goto 112 O 8 dX6_fitsNow_112 (by decide) ?_
                  refine g_sub [0, 1, 2, 5, 6, 7] (lv' := [(5, .int (nI (k + 1))), (4, .int (fi (fun r => fitB hr t p (TR z y r)) (k + 1))), (3, .int (nI (cn (fun r => fitB hr t p (TR z y r)) (k + 1)))), (0, .ref (a 0)), (1, .int p0), (2, .int p1)]) rfl ?_
                  exact ih8 (k + 1) (by omega) (by omega)
                · -- not taken
                  refine g_iload 100 O dX6_fitsNow_100 3 rfl ?_
                  refine g_goto 102 O 107 dX6_fitsNow_102 (by decide) ?_
                  refine g_si (fi (fun r => fitB hr t p (TR z y r)) (k + 1)) (fi_s0 (p := (fun r => fitB hr t p (TR z y r))) (by omega) (bi_t h91) h97) ?_
                  refine g_istore 107 O (lv' := [(4, .int (fi (fun r => fitB hr t p (TR z y r)) (k + 1))), (3, .int (nI (cn (fun r => fitB hr t p (TR z y r)) (k + 1)))), (7, .int (nI (j + 1))), (6, .int (bi (fitB hr t p (TR z y k)))), (5, .int (nI k)), (0, .ref (a 0)), (1, .int p0), (2, .int p1)]) dX6_fitsNow_107 (by decide) rfl ?_
                  refine g_iinc 109 O (v := nI (k + 1)) (q := 4) (lv' := [(5, .int (nI (k + 1))), (4, .int (fi (fun r => fitB hr t p (TR z y r)) (k + 1))), (3, .int (nI (cn (fun r => fitB hr t p (TR z y r)) (k + 1)))), (7, .int (nI (j + 1))), (6, .int (bi (fitB hr t p (TR z y k)))), (0, .ref (a 0)), (1, .int p0), (2, .int p1)]) dX6_fitsNow_109 rfl (nI_1 k) (by decide) rfl ?_
                  refine g_goto 112 O 8 dX6_fitsNow_112 (by decide) ?_
                  refine g_sub [0, 1, 2, 5, 6, 7] (lv' := [(5, .int (nI (k + 1))), (4, .int (fi (fun r => fitB hr t p (TR z y r)) (k + 1))), (3, .int (nI (cn (fun r => fitB hr t p (TR z y r)) (k + 1)))), (0, .ref (a 0)), (1, .int p0), (2, .int p1)]) rfl ?_
                  exact ih8 (k + 1) (by omega) (by omega)
            · -- not taken
              have hlj : j + 1 < t.1 := lt_of_nge (by omega) h29
              refine g_iload 32 O dX6_fitsNow_32 1 rfl ?_
              refine g_if_eq 34 O 67 dX6_fitsNow_34 (by decide) (fun h34 => ?_) (fun h34 => ?_)
              · -- taken
                refine g_iconst 67 O (v := 0) dX6_fitsNow_67 (by decide) ?_
                refine g_si (bi (decide (fp (fun m => decide (bh hr p (TR z y k) (t.2 m) = t.2 (m + 1))) (j + 1) = j + 1))) (congrArg bi (fpd_f (bi_f h34))) ?_
                refine g_istore 68 O (lv' := [(6, .int (bi (decide (fp (fun m => decide (bh hr p (TR z y k) (t.2 m) = t.2 (m + 1))) (j + 1) = j + 1)))), (7, .int (nI (j + 1))), (5, .int (nI k)), (4, .int (fi (fun r => fitB hr t p (TR z y r)) k)), (3, .int (nI (cn (fun r => fitB hr t p (TR z y r)) k))), (0, .ref (a 0)), (1, .int p0), (2, .int p1)]) dX6_fitsNow_68 (by decide) rfl ?_
                refine g_iinc 70 O (v := nI (j + 1 + 1)) (q := 1) (lv' := [(7, .int (nI (j + 1 + 1))), (6, .int (bi (decide (fp (fun m => decide (bh hr p (TR z y k) (t.2 m) = t.2 (m + 1))) (j + 1) = j + 1)))), (5, .int (nI k)), (4, .int (fi (fun r => fitB hr t p (TR z y r)) k)), (3, .int (nI (cn (fun r => fitB hr t p (TR z y r)) k))), (0, .ref (a 0)), (1, .int p0), (2, .int p1)]) dX6_fitsNow_70 rfl (nI_1 (j + 1)) (by decide) rfl ?_
                refine g_goto 73 O 23 dX6_fitsNow_73 (by decide) ?_
                refine g_sub [0, 1, 2, 3, 4, 5, 6, 7] (lv' := [(7, .int (nI (j + 1 + 1))), (6, .int (bi (decide (fp (fun m => decide (bh hr p (TR z y k) (t.2 m) = t.2 (m + 1))) (j + 1) = j + 1)))), (5, .int (nI k)), (4, .int (fi (fun r => fitB hr t p (TR z y r)) k)), (3, .int (nI (cn (fun r => fitB hr t p (TR z y r)) k))), (0, .ref (a 0)), (1, .int p0), (2, .int p1)]) rfl ?_
                exact ih23 (j + 1) (by omega) (by omega)
              · -- not taken
                refine g_aload_n 37 O dX6_fitsNow_37 rfl 5 rfl ?_
                refine g_iload_n 38 O dX6_fitsNow_38 rfl 6 rfl ?_
                refine g_iload 39 O dX6_fitsNow_39 2 rfl ?_
                refine g_aload_n 41 O dX6_fitsNow_41 rfl 5 rfl ?_
                refine g_get 42 O (v := .ref (a 10)) inX6 0 rfl rfl 16 (by decide) kf_X6_37 rfl dX6_fitsNow_42 ?_
                refine g_iload 45 O dX6_fitsNow_45 0 rfl ?_
                refine g_iconst 47 O (v := 1) dX6_fitsNow_47 (by decide) ?_
                refine g_isub 48 O dX6_fitsNow_48 ?_
                refine g_iald 49 O 10 j rfl (pk_sub (b := 1) (by omega)) (by omega) (by decide) dX6_fitsNow_49 ?_
                refine g_si (nI (t.2 j)) ((ht.2.2 j (by omega)).1) ?_
                refine g_callV 50 O (na := 3) (av := [.int p0, .int (nI k), .int (nI (t.2 j))]) (c_X6_behind l E a mw msd mn mon mhn mrd mtn mad mpn se wo jf ow oj kf ff vf cf tf pb fat whl nw nwd njn rd so vl jg tko sdn hh_ ik kw kh kr kt kc ko p0 (nI k) (nI (t.2 j)) y z hy4 hrd hso hr hh p hp hp0 k rfl hlt (t.2 j) rfl (ht.2.2 j (by omega)).2) kl_X6_190 km_X6_behind kv_X6_behind ki_X6 kc_X6_behind (by decide +kernel) rfl (Nat.le_of_ble_eq_true rfl) (Nat.le_of_ble_eq_true rfl) (fun _ h => h) 0 rfl rfl (fun s => s) (fun _ _ _ _ h => h) rfl (Nat.le_of_ble_eq_true rfl) dX6_fitsNow_50 (fun v9 s9 hv9 => ?_)
                obtain ⟨rfl, rfl⟩ := hv9
                refine g_aload_n 53 O dX6_fitsNow_53 rfl 5 rfl ?_
                refine g_get 54 O (v := .ref (a 10)) inX6 0 rfl rfl 16 (by decide) kf_X6_37 rfl dX6_fitsNow_54 ?_
                refine g_iload 57 O dX6_fitsNow_57 0 rfl ?_
                refine g_iald 59 O 10 ((j + 1)) rfl (rfl) (by omega) (by decide) dX6_fitsNow_59 ?_
                refine g_si (nI (t.2 (j + 1))) ((ht.2.2 (j + 1) (by omega)).1) ?_
                refine g_icmp_ne 60 O 67 dX6_fitsNow_60 (by decide) (fun h60 => ?_) (fun h60 => ?_)
                · -- taken
                  refine g_iconst 67 O (v := 0) dX6_fitsNow_67 (by decide) ?_
                  refine g_si (bi (decide (fp (fun m => decide (bh hr p (TR z y k) (t.2 m) = t.2 (m + 1))) (j + 1) = j + 1))) (congrArg bi (fpd_x (q := (fun m => decide (bh hr p (TR z y k) (t.2 m) = t.2 (m + 1)))) (decide_eq_false (fun e => h60 (by rw [e]))))) ?_
                  refine g_istore 68 O (lv' := [(6, .int (bi (decide (fp (fun m => decide (bh hr p (TR z y k) (t.2 m) = t.2 (m + 1))) (j + 1) = j + 1)))), (7, .int (nI (j + 1))), (5, .int (nI k)), (4, .int (fi (fun r => fitB hr t p (TR z y r)) k)), (3, .int (nI (cn (fun r => fitB hr t p (TR z y r)) k))), (0, .ref (a 0)), (1, .int p0), (2, .int p1)]) dX6_fitsNow_68 (by decide) rfl ?_
                  refine g_iinc 70 O (v := nI (j + 1 + 1)) (q := 1) (lv' := [(7, .int (nI (j + 1 + 1))), (6, .int (bi (decide (fp (fun m => decide (bh hr p (TR z y k) (t.2 m) = t.2 (m + 1))) (j + 1) = j + 1)))), (5, .int (nI k)), (4, .int (fi (fun r => fitB hr t p (TR z y r)) k)), (3, .int (nI (cn (fun r => fitB hr t p (TR z y r)) k))), (0, .ref (a 0)), (1, .int p0), (2, .int p1)]) dX6_fitsNow_70 rfl (nI_1 (j + 1)) (by decide) rfl ?_
                  refine g_goto 73 O 23 dX6_fitsNow_73 (by decide) ?_
                  refine g_sub [0, 1, 2, 3, 4, 5, 6, 7] (lv' := [(7, .int (nI (j + 1 + 1))), (6, .int (bi (decide (fp (fun m => decide (bh hr p (TR z y k) (t.2 m) = t.2 (m + 1))) (j + 1) = j + 1)))), (5, .int (nI k)), (4, .int (fi (fun r => fitB hr t p (TR z y r)) k)), (3, .int (nI (cn (fun r => fitB hr t p (TR z y r)) k))), (0, .ref (a 0)), (1, .int p0), (2, .int p1)]) rfl ?_
                  exact ih23 (j + 1) (by omega) (by omega)
                · -- not taken
                  refine g_iconst 63 O (v := 1) dX6_fitsNow_63 (by decide) ?_
                  refine g_goto 64 O 68 dX6_fitsNow_64 (by decide) ?_
                  refine g_si (bi (decide (fp (fun m => decide (bh hr p (TR z y k) (t.2 m) = t.2 (m + 1))) (j + 1) = j + 1))) (congrArg bi (fpd_t (q := (fun m => decide (bh hr p (TR z y k) (t.2 m) = t.2 (m + 1)))) (bi_t h34) (decide_eq_true ((nI_eq (by have := bh_lt hh hp0 (TR z y k) (ht.2.2 j (by omega)).2; omega) (by have := (ht.2.2 (j + 1) (by omega)).2; omega)).mp h60)))) ?_
                  refine g_istore 68 O (lv' := [(6, .int (bi (decide (fp (fun m => decide (bh hr p (TR z y k) (t.2 m) = t.2 (m + 1))) (j + 1) = j + 1)))), (7, .int (nI (j + 1))), (5, .int (nI k)), (4, .int (fi (fun r => fitB hr t p (TR z y r)) k)), (3, .int (nI (cn (fun r => fitB hr t p (TR z y r)) k))), (0, .ref (a 0)), (1, .int p0), (2, .int p1)]) dX6_fitsNow_68 (by decide) rfl ?_
                  refine g_iinc 70 O (v := nI (j + 1 + 1)) (q := 1) (lv' := [(7, .int (nI (j + 1 + 1))), (6, .int (bi (decide (fp (fun m => decide (bh hr p (TR z y k) (t.2 m) = t.2 (m + 1))) (j + 1) = j + 1)))), (5, .int (nI k)), (4, .int (fi (fun r => fitB hr t p (TR z y r)) k)), (3, .int (nI (cn (fun r => fitB hr t p (TR z y r)) k))), (0, .ref (a 0)), (1, .int p0), (2, .int p1)]) dX6_fitsNow_70 rfl (nI_1 (j + 1)) (by decide) rfl ?_
                  refine g_goto 73 O 23 dX6_fitsNow_73 (by decide) ?_
                  refine g_sub [0, 1, 2, 3, 4, 5, 6, 7] (lv' := [(7, .int (nI (j + 1 + 1))), (6, .int (bi (decide (fp (fun m => decide (bh hr p (TR z y k) (t.2 m) = t.2 (m + 1))) (j + 1) = j + 1)))), (5, .int (nI k)), (4, .int (fi (fun r => fitB hr t p (TR z y r)) k)), (3, .int (nI (cn (fun r => fitB hr t p (TR z y r)) k))), (0, .ref (a 0)), (1, .int p0), (2, .int p1)]) rfl ?_
                  exact ih23 (j + 1) (by omega) (by omega)
        exact L23 _ 0 (Nat.zero_le _) (Nat.lt_succ_self _)
  exact L8 _ 0 (Nat.zero_le _) (Nat.lt_succ_self _)

set_option maxRecDepth 100000 in
set_option maxHeartbeats 4000000 in
theorem c_X6_addNow (l : Launch) (E : Ev) (a : Nat → Nat) (mw msd mn mon mhn mrd mtn mad mpn : Int32) (se wo jf ow oj kf ff vf cf tf pb : Nat → Int32) (fat whl nw : Int32) (nwd njn : Nat → Int32) (rd : Int32) (so vl : Nat → Int64) (jg : Nat → Int32) (tko : Nat → Int32) (sdn hh_ : Int64) (ik kw kh kr kt : Int32) (kc ko : Nat → Int32) (p0 : Int32) (y : Sy) (z : Nat → Nat) (hw : mn = nI y.1) (hy : YM wo jf y) (hz : SnW se z) (hy4 : y.1 < 4) (h1 : ¬ y.1 = 0) (wn : Nat) (hwn : mw = nI wn) (hwn0 : wn < 64) : Ctr l yX6_addNow cX6_addNow 6 (some .int) 4 115 E (wM E a) [.ref (a 0), .int p0] (((mw, msd, mn, mon, mhn, mrd, mtn, mad, mpn), (se, wo, jf, ow, oj, kf, ff, vf, cf, tf, pb), (fat, whl, nw, nwd, njn), (rd, so, vl, jg), tko, (sdn, hh_), (ik, kw, kh, kr, kt, kc, ko))) (pI (fun r x => r = (if p0 = 0 then nI (mx (rwt z y wn) 24) else nI (rwt z y wn (mx (rwt z y wn) 24))) ∧ ∃ (rd' : Int32) (so' vl' : Nat → Int64) (jg' wo' jf' : Nat → Int32), x = ((mw, msd, mn, mon, mhn, mrd, mtn, mad, mpn), (se, wo', jf', ow, oj, kf, ff, vf, cf, tf, pb), (fat, whl, nw, nwd, njn), (rd', so', vl', jg'), tko, (sdn, hh_), (ik, kw, kh, kr, kt, kc, ko)) ∧ YM wo' jf' y)) := by
  refine Ctr.of' (by decide +kernel) (Nat.le_of_ble_eq_true rfl) (fun X P0 hP0 O => ?_)
  refine g_sub [0, 1] (lv' := [(0, .ref (a 0)), (1, .int p0)]) rfl ?_
  refine g_iconst 0 O (v := (-1)) dX6_addNow_0 (by decide) ?_
  refine g_istore_n 1 O (lv' := [(2, .int ((-1))), (0, .ref (a 0)), (1, .int p0)]) dX6_addNow_1 rfl (by decide) rfl ?_
  refine g_iconst 2 O (v := (-1)) dX6_addNow_2 (by decide) ?_
  refine g_istore_n 3 O (lv' := [(3, .int ((-1))), (2, .int ((-1))), (0, .ref (a 0)), (1, .int p0)]) dX6_addNow_3 rfl (by decide) rfl ?_
  refine g_iconst 4 O (v := 0) dX6_addNow_4 (by decide) ?_
  refine g_istore 5 O (lv' := [(4, .int 0), (3, .int ((-1))), (2, .int ((-1))), (0, .ref (a 0)), (1, .int p0)]) dX6_addNow_5 (by decide) rfl ?_
  refine g_sub [0, 1, 2, 3, 4] (lv' := [(4, .int 0), (3, .int ((-1))), (2, .int ((-1))), (0, .ref (a 0)), (1, .int p0)]) rfl ?_
  have L7 : ∀ (fuel : Nat) (c : Nat) (rd' : Int32) (so' vl' : Nat → Int64) (jg' wo' jf' : Nat → Int32) (hc : c ≤ 24) (hyw : YM wo' jf' y), 24 - c < fuel → G l E (wM E a) P0 X 6 (((mw, msd, mn, mon, mhn, mrd, mtn, mad, mpn), (se, wo', jf', ow, oj, kf, ff, vf, cf, tf, pb), (fat, whl, nw, nwd, njn), (rd', so', vl', jg'), tko, (sdn, hh_), (ik, kw, kh, kr, kt, kc, ko))) 7 [(4, .int (nI c)), (3, .int (xM (rwt z y wn) c)), (2, .int (xB (rwt z y wn) c)), (0, .ref (a 0)), (1, .int p0)] [] := by
    intro fuel
    induction fuel with
    | zero => intro c rd' so' vl' jg' wo' jf' hc hyw hfu; exact absurd hfu (Nat.not_lt_zero _)
    | succ fuel ih7 =>
      intro c rd' so' vl' jg' wo' jf' hc hyw hfu
      have hrb := fun c => rwt_le (z := z) (w := wn) hy4 c
      refine g_iload 7 O dX6_addNow_7 0 rfl ?_
      refine g_bipush 9 O (v := 24) dX6_addNow_9 (by decide) ?_
      refine g_icmp_ge 11 O 104 dX6_addNow_11 (by decide) (fun h11 => ?_) (fun h11 => ?_)
      · -- taken
        have e : c = 24 := by have := ge_of_le (n := 24) (by omega) (by decide) h11; omega
        refine g_iload_n 104 O dX6_addNow_104 rfl 4 rfl ?_
        refine g_if_ne 105 O 112 dX6_addNow_105 (by decide) (fun h105 => ?_) (fun h105 => ?_)
        · -- taken
          refine g_iload_n 112 O dX6_addNow_112 rfl 1 rfl ?_
          rw [e]
          exact g_iret 113 O dX6_addNow_113 (by rw [hP0, if_neg h105]; exact ⟨_, rfl, rfl, rd', so', vl', jg', wo', jf', rfl, hyw⟩)
        · -- not taken
          refine g_iload_n 108 O dX6_addNow_108 rfl 2 rfl ?_
          refine g_goto 109 O 113 dX6_addNow_109 (by decide) ?_
          rw [e]
          exact g_iret 113 O dX6_addNow_113 (by rw [hP0, if_pos h105]; exact ⟨_, rfl, rfl, rd', so', vl', jg', wo', jf', rfl, hyw⟩)
      · -- not taken
        have hlt : c < 24 := lt_of_nge (n := 24) (by omega) h11
        refine g_aload_n 14 O dX6_addNow_14 rfl 3 rfl ?_
        refine g_get 15 O (v := .ref (a 3)) inX6 0 rfl rfl 5 (by decide) kf_X6_16 rfl dX6_addNow_15 ?_
        refine g_aload_n 18 O dX6_addNow_18 rfl 3 rfl ?_
        refine g_get 19 O (v := .int mn) inX6 0 rfl rfl 3 (by decide) kf_X6_97 rfl dX6_addNow_19 ?_
        refine g_iconst 22 O (v := 1) dX6_addNow_22 (by decide) ?_
        refine g_isub 23 O dX6_addNow_23 ?_
        refine g_iload 24 O dX6_addNow_24 0 rfl ?_
        refine g_bipush 26 O (v := 12) dX6_addNow_26 (by decide) ?_
        refine g_idiv 28 O dX6_addNow_28 (by decide) ?_
        refine g_si (nI (c / 12)) ((ad_ok c hlt).2.2.2) ?_
        refine g_iast 29 O (((mw, msd, mn, mon, mhn, mrd, mtn, mad, mpn), (se, wo', upd jf' ((y.1 - 1)) (nI (c / 12)), ow, oj, kf, ff, vf, cf, tf, pb), (fat, whl, nw, nwd, njn), (rd', so', vl', jg'), tko, (sdn, hh_), (ik, kw, kh, kr, kt, kc, ko))) 3 ((y.1 - 1)) rfl (by rw [hw]; exact pk_sub (b := 1) (by omega)) (by omega) (by decide) rfl dX6_addNow_29 ?_
        refine g_aload_n 30 O dX6_addNow_30 rfl 3 rfl ?_
        refine g_get 31 O (v := .ref (a 2)) inX6 0 rfl rfl 4 (by decide) kf_X6_13 rfl dX6_addNow_31 ?_
        refine g_aload_n 34 O dX6_addNow_34 rfl 3 rfl ?_
        refine g_get 35 O (v := .int mn) inX6 0 rfl rfl 3 (by decide) kf_X6_97 rfl dX6_addNow_35 ?_
        refine g_iconst 38 O (v := 2) dX6_addNow_38 (by decide) ?_
        refine g_iload 39 O dX6_addNow_39 0 rfl ?_
        refine g_bipush 41 O (v := 6) dX6_addNow_41 (by decide) ?_
        refine g_irem 43 O dX6_addNow_43 (by decide) ?_
        refine g_imul 44 O dX6_addNow_44 ?_
        refine g_iload 45 O dX6_addNow_45 0 rfl ?_
        refine g_bipush 47 O (v := 6) dX6_addNow_47 (by decide) ?_
        refine g_idiv 49 O dX6_addNow_49 (by decide) ?_
        refine g_iconst 50 O (v := 2) dX6_addNow_50 (by decide) ?_
        refine g_irem 51 O dX6_addNow_51 (by decide) ?_
        refine g_iadd 52 O dX6_addNow_52 ?_
        refine g_si (nI (2 * (c % 6) + c / 6 % 2)) ((ad_ok c hlt).1) ?_
        have hyc := YM_yw hy4 h1 hlt hyw
        refine g_iast 53 O (((mw, msd, mn, mon, mhn, mrd, mtn, mad, mpn), (se, upd wo' y.1 (nI (2 * (c % 6) + c / 6 % 2)), upd jf' ((y.1 - 1)) (nI (c / 12)), ow, oj, kf, ff, vf, cf, tf, pb), (fat, whl, nw, nwd, njn), (rd', so', vl', jg'), tko, (sdn, hh_), (ik, kw, kh, kr, kt, kc, ko))) 2 y.1 rfl (hw) (by omega) (by decide) rfl dX6_addNow_53 ?_
        refine g_aload_n 54 O dX6_addNow_54 rfl 3 rfl ?_
        refine g_aload_n 55 O dX6_addNow_55 rfl 3 rfl ?_
        refine g_get 56 O (v := .int mn) inX6 0 rfl rfl 3 (by decide) kf_X6_97 rfl dX6_addNow_56 ?_
        refine g_iconst 59 O (v := 1) dX6_addNow_59 (by decide) ?_
        refine g_iadd 60 O dX6_addNow_60 ?_
        refine g_iconst 61 O (v := 0) dX6_addNow_61 (by decide) ?_
        refine g_callV 62 O (na := 2) (av := [.int (mn + 1), .int 0]) (c_X6_lay l E a mw msd mn mon mhn mrd mtn mad mpn se (upd wo' y.1 (nI (2 * (c % 6) + c / 6 % 2))) (upd jf' ((y.1 - 1)) (nI (c / 12))) ow oj kf ff vf cf tf pb fat whl nw nwd njn rd' so' vl' jg' tko sdn hh_ ik kw kh kr kt kc ko (mn + 1) 0 (yw y c) z (y.1 + 1) (by rw [hw]; exact nI_1 y.1) rfl (YM0 hyc) hz) kl_X6_106 km_X6_lay kv_X6_lay ki_X6 kc_X6_lay (by decide +kernel) rfl (Nat.le_of_ble_eq_true rfl) (Nat.le_of_ble_eq_true rfl) (fun _ h => h) 0 rfl rfl (fun s => s) (fun _ _ _ _ h => h) rfl (Nat.le_of_ble_eq_true rfl) dX6_addNow_62 (fun v9 s9 hv9 => ?_)
        obtain ⟨rfl, so2, vl2, jg2, rfl, hso2⟩ := hv9
        refine g_aload_n 65 O dX6_addNow_65 rfl 3 rfl ?_
        refine g_iconst 66 O (v := 0) dX6_addNow_66 (by decide) ?_
        refine g_callV 67 O (na := 1) (av := [.int 0]) (c_X6_comeNow l E a mw msd mn mon mhn mrd mtn mad mpn se (upd wo' y.1 (nI (2 * (c % 6) + c / 6 % 2))) (upd jf' ((y.1 - 1)) (nI (c / 12))) ow oj kf ff vf cf tf pb fat whl nw nwd njn (nI (NR (yw y c))) so2 vl2 jg2 tko sdn hh_ ik kw kh kr kt kc ko 0 (yw y c) z hyc.1 rfl hso2 wn hwn hwn0) kl_X6_165 km_X6_comeNow kv_X6_comeNow ki_X6 kc_X6_comeNow (by decide +kernel) rfl (Nat.le_of_ble_eq_true rfl) (Nat.le_of_ble_eq_true rfl) (fun _ h => h) 0 rfl rfl (fun s => s) (fun _ _ _ _ h => h) rfl (Nat.le_of_ble_eq_true rfl) dX6_addNow_67 (fun v9 s9 hv9 => ?_)
        obtain ⟨rfl, rfl⟩ := hv9
        refine g_si (nI (rwt z y wn c)) (by rw [comN, if_pos rfl]; rfl) ?_
        refine g_istore 70 O (lv' := [(5, .int (nI (rwt z y wn c))), (4, .int (nI c)), (3, .int (xM (rwt z y wn) c)), (2, .int (xB (rwt z y wn) c)), (0, .ref (a 0)), (1, .int p0)]) dX6_addNow_70 (by decide) rfl ?_
        refine g_iload 72 O dX6_addNow_72 0 rfl ?_
        refine g_iload_n 74 O dX6_addNow_74 rfl 2 rfl ?_
        refine g_icmp_le 75 O 83 dX6_addNow_75 (by decide) (fun h75 => ?_) (fun h75 => ?_)
        · -- taken
          refine g_iload_n 83 O dX6_addNow_83 rfl 3 rfl ?_
          refine g_si (xB (rwt z y wn) (c + 1)) (xB_f (f := (rwt z y wn)) hrb h75) ?_
          refine g_istore_n 84 O (lv' := [(2, .int (xB (rwt z y wn) (c + 1))), (5, .int (nI (rwt z y wn c))), (4, .int (nI c)), (3, .int (xM (rwt z y wn) c)), (0, .ref (a 0)), (1, .int p0)]) dX6_addNow_84 rfl (by decide) rfl ?_
          refine g_iload 85 O dX6_addNow_85 1 rfl ?_
          refine g_iload_n 87 O dX6_addNow_87 rfl 3 rfl ?_
          refine g_icmp_le 88 O 96 dX6_addNow_88 (by decide) (fun h88 => ?_) (fun h88 => False.elim (h88 h75))
          refine g_iload_n 96 O dX6_addNow_96 rfl 3 rfl ?_
          refine g_si (xM (rwt z y wn) (c + 1)) (xM_f (f := (rwt z y wn)) hrb h75) ?_
          refine g_istore_n 97 O (lv' := [(3, .int (xM (rwt z y wn) (c + 1))), (2, .int (xB (rwt z y wn) (c + 1))), (5, .int (nI (rwt z y wn c))), (4, .int (nI c)), (0, .ref (a 0)), (1, .int p0)]) dX6_addNow_97 rfl (by decide) rfl ?_
          refine g_iinc 98 O (v := nI (c + 1)) (q := 3) (lv' := [(4, .int (nI (c + 1))), (3, .int (xM (rwt z y wn) (c + 1))), (2, .int (xB (rwt z y wn) (c + 1))), (5, .int (nI (rwt z y wn c))), (0, .ref (a 0)), (1, .int p0)]) dX6_addNow_98 rfl (nI_1 c) (by decide) rfl ?_
          refine g_goto 101 O 7 dX6_addNow_101 (by decide) ?_
          refine g_sub [0, 1, 2, 4, 5] (lv' := [(4, .int (nI (c + 1))), (3, .int (xM (rwt z y wn) (c + 1))), (2, .int (xB (rwt z y wn) (c + 1))), (0, .ref (a 0)), (1, .int p0)]) rfl ?_
          exact ih7 (c + 1) (nI (NR (yw y c))) so2 vl2 jg2 (upd wo' y.1 (nI (2 * (c % 6) + c / 6 % 2))) (upd jf' ((y.1 - 1)) (nI (c / 12))) (by omega) (YM_un hyc) (by omega)
        · -- not taken
          refine g_iload 78 O dX6_addNow_78 1 rfl ?_
          refine g_goto 80 O 84 dX6_addNow_80 (by decide) ?_
          refine g_si (xB (rwt z y wn) (c + 1)) (xB_t (f := (rwt z y wn)) hrb h75) ?_
          refine g_istore_n 84 O (lv' := [(2, .int (xB (rwt z y wn) (c + 1))), (5, .int (nI (rwt z y wn c))), (4, .int (nI c)), (3, .int (xM (rwt z y wn) c)), (0, .ref (a 0)), (1, .int p0)]) dX6_addNow_84 rfl (by decide) rfl ?_
          refine g_iload 85 O dX6_addNow_85 1 rfl ?_
          refine g_iload_n 87 O dX6_addNow_87 rfl 3 rfl ?_
          refine g_icmp_le 88 O 96 dX6_addNow_88 (by decide) (fun h88 => False.elim (h75 h88)) (fun h88 => ?_)
          refine g_iload 91 O dX6_addNow_91 1 rfl ?_
          refine g_goto 93 O 97 dX6_addNow_93 (by decide) ?_
          refine g_si (xM (rwt z y wn) (c + 1)) (xM_t (f := (rwt z y wn)) hrb h75) ?_
          refine g_istore_n 97 O (lv' := [(3, .int (xM (rwt z y wn) (c + 1))), (2, .int (xB (rwt z y wn) (c + 1))), (5, .int (nI (rwt z y wn c))), (4, .int (nI c)), (0, .ref (a 0)), (1, .int p0)]) dX6_addNow_97 rfl (by decide) rfl ?_
          refine g_iinc 98 O (v := nI (c + 1)) (q := 3) (lv' := [(4, .int (nI (c + 1))), (3, .int (xM (rwt z y wn) (c + 1))), (2, .int (xB (rwt z y wn) (c + 1))), (5, .int (nI (rwt z y wn c))), (0, .ref (a 0)), (1, .int p0)]) dX6_addNow_98 rfl (nI_1 c) (by decide) rfl ?_
          refine g_goto 101 O 7 dX6_addNow_101 (by decide) ?_
          refine g_sub [0, 1, 2, 4, 5] (lv' := [(4, .int (nI (c + 1))), (3, .int (xM (rwt z y wn) (c + 1))), (2, .int (xB (rwt z y wn) (c + 1))), (0, .ref (a 0)), (1, .int p0)]) rfl ?_
          exact ih7 (c + 1) (nI (NR (yw y c))) so2 vl2 jg2 (upd wo' y.1 (nI (2 * (c % 6) + c / 6 % 2))) (upd jf' ((y.1 - 1)) (nI (c / 12))) (by omega) (YM_un hyc) (by omega)
  exact L7 _ 0 rd so vl jg wo jf (Nat.zero_le _) hy (Nat.lt_succ_self _)

set_option maxRecDepth 100000 in
set_option maxHeartbeats 4000000 in
theorem c_X6_mix (l : Launch) (E : Ev) (a : Nat → Nat) (mw msd mn mon mhn mrd mtn mad mpn : Int32) (se wo jf ow oj kf ff vf cf tf pb : Nat → Int32) (fat whl nw : Int32) (nwd njn : Nat → Int32) (rd : Int32) (so vl : Nat → Int64) (jg : Nat → Int32) (tko : Nat → Int32) (sdn hh_ : Int64) (ik kw kh kr kt : Int32) (kc ko : Nat → Int32) (p0 : Int64)  : Ctr l yX6_mix cX6_mix 3 none 0 0 E (wM E a) [.ref (a 0), .long p0] (((mw, msd, mn, mon, mhn, mrd, mtn, mad, mpn), (se, wo, jf, ow, oj, kf, ff, vf, cf, tf, pb), (fat, whl, nw, nwd, njn), (rd, so, vl, jg), tko, (sdn, hh_), (ik, kw, kh, kr, kt, kc, ko))) (fun v8 s8 => v8 = none ∧ s8 = ((mw, msd, mn, mon, mhn, mrd, mtn, mad, mpn), (se, wo, jf, ow, oj, kf, ff, vf, cf, tf, pb), (fat, whl, nw, nwd, njn), (rd, so, vl, jg), tko, (sdn, 31 * hh_ + p0), (ik, kw, kh, kr, kt, kc, ko))) := by
  refine Ctr.of' (by decide +kernel) (Nat.le_of_ble_eq_true rfl) (fun X P0 hP0 O => ?_)
  refine g_sub [0, 1] (lv' := [(0, .ref (a 0)), (1, .long p0)]) rfl ?_
  refine g_aload_n 0 O dX6_mix_0 rfl 0 rfl ?_
  refine g_ldc2 1 O (v := 31) dX6_mix_1 kk_X6_271 ?_
  refine g_aload_n 4 O dX6_mix_4 rfl 0 rfl ?_
  refine g_get 5 O (v := .long hh_) inX6 0 rfl rfl 38 (by decide) kf_X6_273 rfl dX6_mix_5 ?_
  refine g_lmul 8 O dX6_mix_8 ?_
  refine g_lload_n 9 O dX6_mix_9 rfl 1 rfl ?_
  refine g_ladd 10 O dX6_mix_10 ?_
  refine g_put 11 O inX6 tyX6_ok nmX6 (((mw, msd, mn, mon, mhn, mrd, mtn, mad, mpn), (se, wo, jf, ow, oj, kf, ff, vf, cf, tf, pb), (fat, whl, nw, nwd, njn), (rd, so, vl, jg), tko, (sdn, (31 * hh_) + p0), (ik, kw, kh, kr, kt, kc, ko))) 0 rfl rfl 38 (by decide) kf_X6_273 rfl (rfl) (rfl) (Nat.le_of_ble_eq_true rfl) rfl dX6_mix_11 ?_
  exact g_vret 14 O dX6_mix_14 (by rw [hP0]; exact ⟨rfl, rfl⟩)

/-- what is kept -/
def KM (kw kh kr kt : Int32) (kc ko : Nat → Int32) (hr : Hr) (iw : Nat) (ir : Int32) (ih : Hr) (it : Tl) : Prop := (kw = nI iw ∧ iw < 64) ∧ kr = ir ∧ (kh = nI ih.1 ∧ ih.1 ≤ hr.1 ∧ ∀ k, k < ih.1 → (ih.2.1 k = hr.2.1 k ∧ ih.2.2.1 k = hr.2.2.1 k ∧ ih.2.2.2.1 k = hr.2.2.2.1 k) ∧ kc k = ih.2.2.2.2 k) ∧ (kt = nI it.1 ∧ it.1 ≤ 6 ∧ ∀ k, k < it.1 → ko k = nI (it.2 k) ∧ it.2 k < 64)
def RMc (mw msd mn mon mhn mrd mtn mad mpn : Int32) (se wo jf ow oj kf ff vf cf tf pb : Nat → Int32) (ik kw kh kr kt : Int32) (kc ko : Nat → Int32) (wn : Nat) (rn sn0 : Int32) (adn pn : Nat) (pc : Nat → Int32) (z : Nat → Nat) (y o : Sy) (hr : Hr) (tl : Tl) (ib : Bool) (iw : Nat) (ir : Int32) (ih : Hr) (it : Tl) : Prop :=
  (mw = nI wn ∧ wn < 64) ∧ mrd = rn ∧ msd = sn0 ∧ (mad = nI adn ∧ adn ≤ 60) ∧ (mpn = nI pn ∧ pn ≤ 14 ∧ ∀ k, k < pn → pb k = pc k ∧ 32 ≤ pc k ∧ pc k ≤ 126) ∧ SnW se z ∧ (mn = nI y.1 ∧ YM wo jf y) ∧ (mon = nI o.1 ∧ YM ow oj o) ∧ HrW (mhn, kf, ff, vf, cf) hr ∧ TlW (mtn, tf) tl ∧ ik = bi ib ∧ (ib = true → KM kw kh kr kt kc ko hr iw ir ih it)
def RM (x : Mc) (S : AS) : Prop := RMc x.1.1 x.1.2.1 x.1.2.2.1 x.1.2.2.2.1 x.1.2.2.2.2.1 x.1.2.2.2.2.2.1 x.1.2.2.2.2.2.2.1 x.1.2.2.2.2.2.2.2.1 x.1.2.2.2.2.2.2.2.2
  x.2.1.1 x.2.1.2.1 x.2.1.2.2.1 x.2.1.2.2.2.1 x.2.1.2.2.2.2.1 x.2.1.2.2.2.2.2.1 x.2.1.2.2.2.2.2.2.1 x.2.1.2.2.2.2.2.2.2.1 x.2.1.2.2.2.2.2.2.2.2.1 x.2.1.2.2.2.2.2.2.2.2.2.1 x.2.1.2.2.2.2.2.2.2.2.2.2
  x.2.2.2.2.2.2.1 x.2.2.2.2.2.2.2.1 x.2.2.2.2.2.2.2.2.1 x.2.2.2.2.2.2.2.2.2.1 x.2.2.2.2.2.2.2.2.2.2.1 x.2.2.2.2.2.2.2.2.2.2.2.1 x.2.2.2.2.2.2.2.2.2.2.2.2
  S.1.1 S.1.2.1 S.1.2.2.1 S.1.2.2.2 S.2.1.1 S.2.1.2 S.2.2.1 S.2.2.2.1 S.2.2.2.2.1 S.2.2.2.2.2.1 S.2.2.2.2.2.2.1 S.2.2.2.2.2.2.2.1 S.2.2.2.2.2.2.2.2.1 S.2.2.2.2.2.2.2.2.2.1 S.2.2.2.2.2.2.2.2.2.2.1 S.2.2.2.2.2.2.2.2.2.2.2

set_option maxRecDepth 100000 in
set_option maxHeartbeats 4000000 in
theorem c_X6_howMany (l : Launch) (E : Ev) (a : Nat → Nat) (mw msd mn mon mhn mrd mtn mad mpn : Int32) (se wo jf ow oj kf ff vf cf tf pb : Nat → Int32) (fat whl nw : Int32) (nwd njn : Nat → Int32) (rd : Int32) (so vl : Nat → Int64) (jg : Nat → Int32) (tko : Nat → Int32) (sdn hh_ : Int64) (ik kw kh kr kt : Int32) (kc ko : Nat → Int32) (p0 : Int32) (wn : Nat) (rn sn0 : Int32) (adn pn : Nat) (pc : Nat → Int32) (z : Nat → Nat) (y o : Sy) (hr : Hr) (tl : Tl) (ib : Bool) (iw : Nat) (ir : Int32) (ih : Hr) (it : Tl) (hS : RMc mw msd mn mon mhn mrd mtn mad mpn se wo jf ow oj kf ff vf cf tf pb ik kw kh kr kt kc ko wn rn sn0 adn pn pc z y o hr tl ib iw ir ih it) : Ctr l yX6_howMany cX6_howMany 2 (some .int) 3 68 E (wM E a) [.ref (a 0), .int p0] (((mw, msd, mn, mon, mhn, mrd, mtn, mad, mpn), (se, wo, jf, ow, oj, kf, ff, vf, cf, tf, pb), (fat, whl, nw, nwd, njn), (rd, so, vl, jg), tko, (sdn, hh_), (ik, kw, kh, kr, kt, kc, ko))) (fun v8 s8 => v8 = some (.int (cntN ((wn, rn, sn0, adn), (pn, pc), z, y, o, hr, tl, ib, iw, ir, ih, it) p0)) ∧ s8 = ((mw, msd, mn, mon, mhn, mrd, mtn, mad, mpn), (se, wo, jf, ow, oj, kf, ff, vf, cf, tf, pb), (fat, whl, nw, nwd, njn), (rd, so, vl, jg), tko, (sdn, hh_), (ik, kw, kh, kr, kt, kc, ko))) := by
  refine Ctr.of' (by decide +kernel) (Nat.le_of_ble_eq_true rfl) (fun X P0 hP0 O => ?_)
  refine g_sub [0, 1] (lv' := [(0, .ref (a 0)), (1, .int p0)]) rfl ?_
  have hS9 := hS
  obtain ⟨⟨hwn, hwn0⟩, hrn, hsn, ⟨had, had0⟩, ⟨hpn, hpn0, hpb⟩, hz, ⟨hw, hy⟩, ⟨ho, hyo⟩, hh, ht, hik, hkp⟩ := hS
  refine g_iload_n 0 O dX6_howMany_0 rfl 1 rfl ?_
  rcases sw9 p0 with c0 | c0 | c0 | c0 | c0 | c0 | c0 | c0 | c0 | c0 | c0
  ·
    refine g_si 0 (c0) ?_
    refine g_tabIn 1 O 56 dX6_howMany_1 (by decide) (by decide) rfl (by decide) ?_
    refine g_aload_n 56 O dX6_howMany_56 rfl 0 rfl ?_
    refine g_aload_n 57 O dX6_howMany_57 rfl 0 rfl ?_
    refine g_get 58 O (v := .int mn) inX6 0 rfl rfl 3 (by decide) kf_X6_97 rfl dX6_howMany_58 ?_
    refine g_iconst 61 O (v := 0) dX6_howMany_61 (by decide) ?_
    refine g_callV 62 O (na := 2) (av := [.int mn, .int 0]) (c_X6_readingsOf l E a mw msd mn mon mhn mrd mtn mad mpn se wo jf ow oj kf ff vf cf tf pb fat whl nw nwd njn rd so vl jg tko sdn hh_ ik kw kh kr kt kc ko mn 0 y hw (YM0 hy)) kl_X6_265 km_X6_readingsOf kv_X6_readingsOf ki_X6 kc_X6_readingsOf (by decide +kernel) rfl (Nat.le_of_ble_eq_true rfl) (Nat.le_of_ble_eq_true rfl) (fun _ h => h) 0 rfl rfl (fun s => s) (fun _ _ _ _ h => h) rfl (Nat.le_of_ble_eq_true rfl) dX6_howMany_62 (fun v9 s9 hv9 => ?_)
    obtain ⟨rfl, rfl⟩ := hv9
    exact g_iret 65 O dX6_howMany_65 (by rw [hP0, c0]; exact ⟨rfl, rfl⟩)
  ·
    refine g_si 1 (c0) ?_
    refine g_tabIn 1 O 66 dX6_howMany_1 (by decide) (by decide) rfl (by decide) ?_
    refine g_aload_n 66 O dX6_howMany_66 rfl 0 rfl ?_
    refine g_get 67 O (v := .int mn) inX6 0 rfl rfl 3 (by decide) kf_X6_97 rfl dX6_howMany_67 ?_
    refine g_si (nI y.1) (hw) ?_
    exact g_iret 70 O dX6_howMany_70 (by rw [hP0, c0]; exact ⟨rfl, rfl⟩)
  ·
    refine g_si 2 (c0) ?_
    refine g_tabIn 1 O 71 dX6_howMany_1 (by decide) (by decide) rfl (by decide) ?_
    refine g_aload_n 71 O dX6_howMany_71 rfl 0 rfl ?_
    refine g_aload_n 72 O dX6_howMany_72 rfl 0 rfl ?_
    refine g_get 73 O (v := .int mon) inX6 0 rfl rfl 6 (by decide) kf_X6_100 rfl dX6_howMany_73 ?_
    refine g_iconst 76 O (v := 1) dX6_howMany_76 (by decide) ?_
    refine g_callV 77 O (na := 2) (av := [.int mon, .int 1]) (c_X6_readingsOf l E a mw msd mn mon mhn mrd mtn mad mpn se wo jf ow oj kf ff vf cf tf pb fat whl nw nwd njn rd so vl jg tko sdn hh_ ik kw kh kr kt kc ko mon 1 o ho (YM1 hyo)) kl_X6_265 km_X6_readingsOf kv_X6_readingsOf ki_X6 kc_X6_readingsOf (by decide +kernel) rfl (Nat.le_of_ble_eq_true rfl) (Nat.le_of_ble_eq_true rfl) (fun _ h => h) 0 rfl rfl (fun s => s) (fun _ _ _ _ h => h) rfl (Nat.le_of_ble_eq_true rfl) dX6_howMany_77 (fun v9 s9 hv9 => ?_)
    obtain ⟨rfl, rfl⟩ := hv9
    exact g_iret 80 O dX6_howMany_80 (by rw [hP0, c0]; exact ⟨rfl, rfl⟩)
  ·
    refine g_si 3 (c0) ?_
    refine g_tabIn 1 O 81 dX6_howMany_1 (by decide) (by decide) rfl (by decide) ?_
    refine g_aload_n 81 O dX6_howMany_81 rfl 0 rfl ?_
    refine g_get 82 O (v := .int mhn) inX6 0 rfl rfl 9 (by decide) kf_X6_175 rfl dX6_howMany_82 ?_
    refine g_si (nI hr.1) (hh.1) ?_
    exact g_iret 85 O dX6_howMany_85 (by rw [hP0, c0]; exact ⟨rfl, rfl⟩)
  ·
    refine g_si 4 (c0) ?_
    refine g_tabIn 1 O 86 dX6_howMany_1 (by decide) (by decide) rfl (by decide) ?_
    refine g_aload_n 86 O dX6_howMany_86 rfl 0 rfl ?_
    refine g_get 87 O (v := .int mrd) inX6 0 rfl rfl 14 (by decide) kf_X6_197 rfl dX6_howMany_87 ?_
    refine g_si (rn) (hrn) ?_
    exact g_iret 90 O dX6_howMany_90 (by rw [hP0, c0]; exact ⟨rfl, rfl⟩)
  ·
    refine g_si 5 (c0) ?_
    refine g_tabIn 1 O 91 dX6_howMany_1 (by decide) (by decide) rfl (by decide) ?_
    refine g_aload_n 91 O dX6_howMany_91 rfl 0 rfl ?_
    refine g_get 92 O (v := .int mw) inX6 0 rfl rfl 0 (by decide) kf_X6_162 rfl dX6_howMany_92 ?_
    refine g_si (nI wn) (hwn) ?_
    exact g_iret 95 O dX6_howMany_95 (by rw [hP0, c0]; exact ⟨rfl, rfl⟩)
  ·
    refine g_si 6 (c0) ?_
    refine g_tabIn 1 O 96 dX6_howMany_1 (by decide) (by decide) rfl (by decide) ?_
    refine g_aload_n 96 O dX6_howMany_96 rfl 0 rfl ?_
    refine g_get 97 O (v := .int mtn) inX6 0 rfl rfl 15 (by decide) kf_X6_226 rfl dX6_howMany_97 ?_
    refine g_si (nI tl.1) (ht.1) ?_
    exact g_iret 100 O dX6_howMany_100 (by rw [hP0, c0]; exact ⟨rfl, rfl⟩)
  ·
    refine g_si 7 (c0) ?_
    refine g_tabIn 1 O 101 dX6_howMany_1 (by decide) (by decide) rfl (by decide) ?_
    refine g_aload_n 101 O dX6_howMany_101 rfl 0 rfl ?_
    refine g_get 102 O (v := .int mpn) inX6 0 rfl rfl 18 (by decide) kf_X6_73 rfl dX6_howMany_102 ?_
    refine g_si (nI pn) (hpn) ?_
    exact g_iret 105 O dX6_howMany_105 (by rw [hP0, c0]; exact ⟨rfl, rfl⟩)
  ·
    refine g_si 8 (c0) ?_
    refine g_tabIn 1 O 106 dX6_howMany_1 (by decide) (by decide) rfl (by decide) ?_
    refine g_aload_n 106 O dX6_howMany_106 rfl 0 rfl ?_
    refine g_get 107 O (v := .int msd) inX6 0 rfl rfl 1 (by decide) kf_X6_103 rfl dX6_howMany_107 ?_
    refine g_si (sn0) (hsn) ?_
    exact g_iret 110 O dX6_howMany_110 (by rw [hP0, c0]; exact ⟨rfl, rfl⟩)
  ·
    refine g_si 9 (c0) ?_
    refine g_tabIn 1 O 111 dX6_howMany_1 (by decide) (by decide) rfl (by decide) ?_
    refine g_aload_n 111 O dX6_howMany_111 rfl 0 rfl ?_
    refine g_get 112 O (v := .int mad) inX6 0 rfl rfl 17 (by decide) kf_X6_220 rfl dX6_howMany_112 ?_
    refine g_si (nI adn) (had) ?_
    exact g_iret 115 O dX6_howMany_115 (by rw [hP0, c0]; exact ⟨rfl, rfl⟩)
  ·
    refine g_tabOut 1 O 116 dX6_howMany_1 (c0) (by decide) ?_
    refine g_bipush 116 O (v := (-102)) dX6_howMany_116 (by decide) ?_
    exact g_iret 118 O dX6_howMany_118 (by have q := sw9_out c0; rw [hP0, cntN, if_neg q.1, if_neg q.2.1, if_neg q.2.2.1, if_neg q.2.2.2.1, if_neg q.2.2.2.2.1, if_neg q.2.2.2.2.2.1, if_neg q.2.2.2.2.2.2.1, if_neg q.2.2.2.2.2.2.2.1, if_neg q.2.2.2.2.2.2.2.2.1, if_neg q.2.2.2.2.2.2.2.2.2]; exact ⟨rfl, rfl⟩)
