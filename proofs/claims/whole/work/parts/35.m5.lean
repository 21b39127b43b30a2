theorem cn_split (p q : Nat → Bool) : ∀ n, cn p n = cn (fun k => p k && q k) n + cn (fun k => p k && !q k) n
  | 0 => rfl
  | n + 1 => by
    rw [cn, cn, cn, cn_split p q n]
    cases p n <;> cases q n <;> simp <;> omega
theorem tb_and (x w : Int64) (k : Nat) : tb (x &&& w) k = (tb x k && tb w k) := by
  unfold tb; rw [Int64.toBitVec_and, BitVec.getLsbD_and]
theorem tb_not (w : Int64) {k : Nat} (hk : k < 64) : tb (w ^^^ (-1)) k = !tb w k := by
  unfold tb
  rw [Int64.toBitVec_xor, BitVec.getLsbD_xor, show ((-1 : Int64)).toBitVec = BitVec.allOnes 64 from rfl, BitVec.getLsbD_allOnes, decide_eq_true hk, Bool.xor_true]
theorem pcn_split (x w : Int64) : pcn x = pcn (x &&& w) + pcn (x &&& (w ^^^ (-1))) := by
  unfold pcn
  rw [cn_split (tb x) (tb w) 64, cn_cong (p := tb (x &&& w)) (fun k _ => tb_and x w k), cn_cong (p := tb (x &&& (w ^^^ (-1)))) (q := fun k => tb x k && !tb w k) (fun k hk => by rw [tb_and, tb_not w hk])]
theorem pcn_sub (x w : Int64) : nI (pcn x) - nI (pcn (x &&& w)) = nI (pcn (x &&& (w ^^^ (-1)))) := by
  have h := pcn_split x w
  rw [pk_sub (by omega), h, Nat.add_sub_cancel_left]
theorem in_all (x w : Int64) : x &&& w = x ↔ x &&& (w ^^^ (-1)) = 0 := by
  constructor
  · intro h
    apply wb_inj
    apply BitVec.eq_of_getLsbD_eq
    intro i hi
    have h1 : tb (x &&& w) i = tb x i := by rw [h]
    rw [tb_and] at h1
    have h2 : tb (x &&& (w ^^^ (-1))) i = false := by
      rw [tb_and, tb_not w hi]
      revert h1; cases tb x i <;> cases tb w i <;> decide
    have h3 : tb 0 i = false := by show (BitVec.ofNat 64 0).getLsbD i = false; simp
    exact h2.trans h3.symm
  · intro h
    apply wb_inj
    apply BitVec.eq_of_getLsbD_eq
    intro i hi
    have h3 : tb 0 i = false := by show (BitVec.ofNat 64 0).getLsbD i = false; simp
    have h1 : tb (x &&& (w ^^^ (-1))) i = false := by rw [h]; exact h3
    rw [tb_and, tb_not w hi] at h1
    show tb (x &&& w) i = tb x i
    rw [tb_and]
    revert h1; cases tb x i <;> cases tb w i <;> decide
theorem fB_cong {p q : Nat → Bool} : ∀ {n : Nat}, (∀ k, k < n → p k = q k) → fB p n = fB q n
  | 0, _ => rfl
  | n + 1, h => by rw [fB, fB, fB_cong (fun k hk => h k (by omega)), h n (by omega)]
theorem fB_t {q : Nat → Bool} {n : Nat} (h : q n = true) : fB q (n + 1) = fB q n + 2 ^ n := by rw [fB, if_pos h]
theorem fB_f {q : Nat → Bool} {n : Nat} (h : q n = false) : fB q (n + 1) = fB q n := by rw [fB, if_neg (by rw [h]; decide), Nat.add_zero]
theorem lw_max {x : Int64} {f : Nat} : lw x f = max (pcn (x &&& Wf f)) (pcn (x &&& (Wf f ^^^ (-1)))) := rfl
def aL (f : Nat → Nat) (k : Nat) : Nat := if k = 0 then 65 else f (mn f k)
def aB (f : Nat → Nat) (k : Nat) : Int32 := if k = 0 then -1 else nI (mn f k)
theorem mnS {f : Nat → Nat} {k : Nat} (h0 : f 0 ≤ 64) (q : f k < aL f k) : mn f (k + 1) = k := by
  rcases Nat.eq_zero_or_pos k with e | e
  · subst e; exact mn_1 f
  · rw [aL, if_neg (by omega)] at q; rw [mn, if_pos q]
theorem mnK {f : Nat → Nat} {k : Nat} (h0 : f 0 ≤ 64) (q : ¬ f k < aL f k) : 0 < k ∧ mn f (k + 1) = mn f k := by
  rcases Nat.eq_zero_or_pos k with e | e
  · subst e; rw [aL, if_pos rfl] at q; omega
  · rw [aL, if_neg (by omega)] at q; exact ⟨e, by rw [mn, if_neg q]⟩
theorem aB_t {f : Nat → Nat} {k : Nat} (h0 : f 0 ≤ 64) (q : f k < aL f k) : nI k = aB f (k + 1) := by rw [aB, if_neg (by omega), mnS h0 q]
theorem aL_t {f : Nat → Nat} {k : Nat} (h0 : f 0 ≤ 64) (q : f k < aL f k) : f k = aL f (k + 1) := by rw [aL, if_neg (by omega), mnS h0 q]
theorem aB_f {f : Nat → Nat} {k : Nat} (h0 : f 0 ≤ 64) (q : ¬ f k < aL f k) : aB f k = aB f (k + 1) := by
  have h := mnK h0 q
  rw [aB, aB, if_neg (by omega), if_neg (by omega), h.2]
theorem aL_f {f : Nat → Nat} {k : Nat} (h0 : f 0 ≤ 64) (q : ¬ f k < aL f k) : aL f k = aL f (k + 1) := by
  have h := mnK h0 q
  rw [aL, aL, if_neg (by omega), if_neg (by omega), h.2]
theorem aL_le {f : Nat → Nat} (h : ∀ k, f k ≤ 64) (k : Nat) : aL f k ≤ 65 := by
  unfold aL; split
  · omega
  · have := h (mn f k); omega
theorem tm_c {z : Nat → Nat} {y : Sy} {h : Hr} {w s k : Nat} : (tm z y h w s (k + 1)).2.2 = (tm z y h w s k).2.2 + (if tb (som z y) (tm z y h w s (k + 1)).1 = true then 1 else 0) := by
  rw [tm]; split <;> rfl
theorem HrW_c0 {a : Int32} {b c d e : Nat → Int32} {y : Hr} (hh : HrW (a, b, c, d, e) y) (p : Nat) (c' : Nat → Int32) (hc : c' = y.2.2.2.2) : HrW (a, b, c, d, upd e p (e p + 0)) (y.1, y.2.1, y.2.2.1, y.2.2.2.1, c') := by
  have e1 : upd e p (e p + 0) = e := by
    funext j
    by_cases q : j = p
    · rw [q, upd_s]; exact Int32.add_zero _
    · rw [upd_n _ _ q]
  rw [e1, hc]; exact hh
theorem HrW_c1 {a : Int32} {b c d e : Nat → Int32} {y : Hr} (hh : HrW (a, b, c, d, e) y) (p : Nat) (hp : p < y.1) (c' : Nat → Int32) (hc : c' = upd y.2.2.2.2 p (y.2.2.2.2 p + 1)) : HrW (a, b, c, d, upd e p (e p + 1)) (y.1, y.2.1, y.2.2.1, y.2.2.2.1, c') := by
  rw [hc]; exact HrW_ch hh p hp
theorem rd_ok : ∀ n, n ≤ 4 → ∀ q, q ≤ 3 → nI (nbr n) <<< ((nI q + nI n) &&& 31) = nI (nbr n * 2 ^ q * 2 ^ n) := by decide +kernel

set_option maxRecDepth 100000 in
set_option maxHeartbeats 4000000 in
theorem c_X6_layTakes (l : Launch) (E : Ev) (a : Nat → Nat) (mw msd mn mon mhn mrd mtn mad mpn : Int32) (se wo jf ow oj kf ff vf cf tf pb : Nat → Int32) (fat whl nw : Int32) (nwd njn : Nat → Int32) (rd : Int32) (so vl : Nat → Int64) (jg : Nat → Int32) (tko : Nat → Int32) (sdn hh_ : Int64) (ik kw kh kr kt : Int32) (kc ko : Nat → Int32) (y : Sy) (z : Nat → Nat) (hy4 : y.1 ≤ 4) (hrd : rd = nI (NR y)) (hso : ∀ r, r < NR y → so r = TR z y r) (hr : Hr) (hh : HrW (mhn, kf, ff, vf, cf) hr) : Ctr l yX6_layTakes cX6_layTakes 2 none 2 48 E (wM E a) [.ref (a 0)] (((mw, msd, mn, mon, mhn, mrd, mtn, mad, mpn), (se, wo, jf, ow, oj, kf, ff, vf, cf, tf, pb), (fat, whl, nw, nwd, njn), (rd, so, vl, jg), tko, (sdn, hh_), (ik, kw, kh, kr, kt, kc, ko))) (pV (fun x => ∃ tko' : Nat → Int32, x = ((mw, msd, mn, mon, mhn, mrd, mtn, mad, mpn), (se, wo, jf, ow, oj, kf, ff, vf, cf, tf, pb), (fat, whl, nw, nwd, njn), (rd, so, vl, jg), tko', (sdn, hh_), (ik, kw, kh, kr, kt, kc, ko)) ∧ ∀ p, p < hr.1 → tko' p = tkI z y (hr.2.1 p))) := by
  refine Ctr.of' (by decide +kernel) (Nat.le_of_ble_eq_true rfl) (fun X P0 hP0 O => ?_)
  refine g_sub [0] (lv' := [(0, .ref (a 0))]) rfl ?_
  have hh4 := hh.2.1
  refine g_iconst 0 O (v := 0) dX6_layTakes_0 (by decide) ?_
  refine g_istore_n 1 O (lv' := [(1, .int 0), (0, .ref (a 0))]) dX6_layTakes_1 rfl (by decide) rfl ?_
  refine g_sub [0, 1] (lv' := [(1, .int 0), (0, .ref (a 0))]) rfl ?_
  have L2 : ∀ (fuel : Nat) (k : Nat) (tko' : Nat → Int32) (hk : k ≤ hr.1) (ht : ∀ i, i < k → tko' i = tkI z y (hr.2.1 i)), hr.1 - k < fuel → G l E (wM E a) P0 X 2 (((mw, msd, mn, mon, mhn, mrd, mtn, mad, mpn), (se, wo, jf, ow, oj, kf, ff, vf, cf, tf, pb), (fat, whl, nw, nwd, njn), (rd, so, vl, jg), tko', (sdn, hh_), (ik, kw, kh, kr, kt, kc, ko))) 2 [(1, .int (nI k)), (0, .ref (a 0))] [] := by
    intro fuel
    induction fuel with
    | zero => intro k tko' hk ht hfu; exact absurd hfu (Nat.not_lt_zero _)
    | succ fuel ih2 =>
      intro k tko' hk ht hfu
      refine g_iload_n 2 O dX6_layTakes_2 rfl 0 rfl ?_
      refine g_aload_n 3 O dX6_layTakes_3 rfl 1 rfl ?_
      refine g_get 4 O (v := .int mhn) inX6 0 rfl rfl 9 (by decide) kf_X6_175 rfl dX6_layTakes_4 ?_
      refine g_si (nI hr.1) (hh.1) ?_
      refine g_icmp_ge 7 O 27 dX6_layTakes_7 (by decide) (fun h7 => ?_) (fun h7 => ?_)
      · -- taken
        have e : k = hr.1 := by have := ge_of_le (by omega) (by omega) h7; omega
        exact g_vret 27 O dX6_layTakes_27 (by rw [hP0]; exact ⟨rfl, tko', rfl, by rw [← e]; exact ht⟩)
      · -- not taken
        have hlt : k < hr.1 := lt_of_nge (by omega) h7
        refine g_aload_n 10 O dX6_layTakes_10 rfl 1 rfl ?_
        refine g_get 11 O (v := .ref (a 17)) inX6 0 rfl rfl 29 (by decide) kf_X6_60 rfl dX6_layTakes_11 ?_
        refine g_iload_n 14 O dX6_layTakes_14 rfl 0 rfl ?_
        refine g_aload_n 15 O dX6_layTakes_15 rfl 1 rfl ?_
        refine g_iload_n 16 O dX6_layTakes_16 rfl 0 rfl ?_
        refine g_callV 17 O (na := 1) (av := [.int (nI k)]) (c_X6_takes l E a mw msd mn mon mhn mrd mtn mad mpn se wo jf ow oj kf ff vf cf tf pb fat whl nw nwd njn rd so vl jg tko' sdn hh_ ik kw kh kr kt kc ko (nI k) y z hy4 hrd hso hr hh k rfl hlt) kl_X6_181 km_X6_takes kv_X6_takes ki_X6 kc_X6_takes (by decide +kernel) rfl (Nat.le_of_ble_eq_true rfl) (Nat.le_of_ble_eq_true rfl) (fun _ h => h) 0 rfl rfl (fun s => s) (fun _ _ _ _ h => h) rfl (Nat.le_of_ble_eq_true rfl) dX6_layTakes_17 (fun v9 s9 hv9 => ?_)
        obtain ⟨rfl, rfl⟩ := hv9
        refine g_iast 20 O (((mw, msd, mn, mon, mhn, mrd, mtn, mad, mpn), (se, wo, jf, ow, oj, kf, ff, vf, cf, tf, pb), (fat, whl, nw, nwd, njn), (rd, so, vl, jg), upd tko' k (tkI z y (hr.2.1 k)), (sdn, hh_), (ik, kw, kh, kr, kt, kc, ko))) 17 k rfl (rfl) (by omega) (by decide) rfl dX6_layTakes_20 ?_
        refine g_iinc 21 O (v := nI (k + 1)) (q := 0) (lv' := [(1, .int (nI (k + 1))), (0, .ref (a 0))]) dX6_layTakes_21 rfl (nI_1 k) (by decide) rfl ?_
        refine g_goto 24 O 2 dX6_layTakes_24 (by decide) ?_
        refine g_sub [0, 1] (lv' := [(1, .int (nI (k + 1))), (0, .ref (a 0))]) rfl ?_
        exact ih2 (k + 1) (upd tko' k (tkI z y (hr.2.1 k))) (by omega) (upd_ext (g := fun i => tkI z y (hr.2.1 i)) ht rfl) (by omega)
  exact L2 _ 0 tko (Nat.zero_le _) (fun i h => absurd h (Nat.not_lt_zero _)) (Nat.lt_succ_self _)

set_option maxRecDepth 100000 in
set_option maxHeartbeats 4000000 in
theorem c_X6_roundFrom (l : Launch) (E : Ev) (a : Nat → Nat) (mw msd mn mon mhn mrd mtn mad mpn : Int32) (se wo jf ow oj kf ff vf cf tf pb : Nat → Int32) (fat whl nw : Int32) (nwd njn : Nat → Int32) (rd : Int32) (so vl : Nat → Int64) (jg : Nat → Int32) (tko : Nat → Int32) (sdn hh_ : Int64) (ik kw kh kr kt : Int32) (kc ko : Nat → Int32) (p0 : Int32) (y : Sy) (z : Nat → Nat) (hy4 : y.1 ≤ 4) (hrd : rd = nI (NR y)) (hso : ∀ r, r < NR y → so r = TR z y r) (hr : Hr) (hh : HrW (mhn, kf, ff, vf, cf) hr) (hy0 : ¬ y.1 = 0) (htk : ∀ p, p < hr.1 → tko p = tkI z y (hr.2.1 p)) (wn : Nat) (hwn : p0 = nI wn) (hwn0 : wn < 64) : Ctr l yX6_roundFrom cX6_roundFrom 4 (some .int) 3 68 E (wM E a) [.ref (a 0), .int p0] (((mw, msd, mn, mon, mhn, mrd, mtn, mad, mpn), (se, wo, jf, ow, oj, kf, ff, vf, cf, tf, pb), (fat, whl, nw, nwd, njn), (rd, so, vl, jg), tko, (sdn, hh_), (ik, kw, kh, kr, kt, kc, ko))) (fun v8 s8 => v8 = some (.int (nI (bR z y hr hr.1 wn))) ∧ s8 = ((mw, msd, mn, mon, mhn, mrd, mtn, mad, mpn), (se, wo, jf, ow, oj, kf, ff, vf, cf, tf, pb), (fat, whl, nw, nwd, njn), (rd, so, vl, jg), tko, (sdn, hh_), (ik, kw, kh, kr, kt, kc, ko))) := by
  refine Ctr.of' (by decide +kernel) (Nat.le_of_ble_eq_true rfl) (fun X P0 hP0 O => ?_)
  refine g_sub [0, 1] (lv' := [(0, .ref (a 0)), (1, .int p0)]) rfl ?_
  have hh4 := hh.2.1
  refine g_iload_n 0 O dX6_roundFrom_0 rfl 1 rfl ?_
  refine g_si (nI (bR z y hr 0 wn)) (hwn) ?_
  refine g_istore_n 1 O (lv' := [(2, .int (nI (bR z y hr 0 wn))), (0, .ref (a 0)), (1, .int p0)]) dX6_roundFrom_1 rfl (by decide) rfl ?_
  refine g_iconst 2 O (v := 0) dX6_roundFrom_2 (by decide) ?_
  refine g_istore_n 3 O (lv' := [(3, .int 0), (2, .int (nI (bR z y hr 0 wn))), (0, .ref (a 0)), (1, .int p0)]) dX6_roundFrom_3 rfl (by decide) rfl ?_
  refine g_sub [0, 1, 2, 3] (lv' := [(3, .int 0), (2, .int (nI (bR z y hr 0 wn))), (0, .ref (a 0)), (1, .int p0)]) rfl ?_
  have L4 : ∀ (fuel : Nat) (k : Nat) (hk : k ≤ hr.1), hr.1 - k < fuel → G l E (wM E a) P0 X 4 (((mw, msd, mn, mon, mhn, mrd, mtn, mad, mpn), (se, wo, jf, ow, oj, kf, ff, vf, cf, tf, pb), (fat, whl, nw, nwd, njn), (rd, so, vl, jg), tko, (sdn, hh_), (ik, kw, kh, kr, kt, kc, ko))) 4 [(3, .int (nI k)), (2, .int (nI (bR z y hr k wn))), (0, .ref (a 0)), (1, .int p0)] [] := by
    intro fuel
    induction fuel with
    | zero => intro k hk hfu; exact absurd hfu (Nat.not_lt_zero _)
    | succ fuel ih4 =>
      intro k hk hfu
      refine g_iload_n 4 O dX6_roundFrom_4 rfl 0 rfl ?_
      refine g_aload_n 5 O dX6_roundFrom_5 rfl 2 rfl ?_
      refine g_get 6 O (v := .int mhn) inX6 0 rfl rfl 9 (by decide) kf_X6_175 rfl dX6_roundFrom_6 ?_
      refine g_si (nI hr.1) (hh.1) ?_
      refine g_icmp_ge 9 O 31 dX6_roundFrom_9 (by decide) (fun h9 => ?_) (fun h9 => ?_)
      · -- taken
        have e : k = hr.1 := by have := ge_of_le (by omega) (by omega) h9; omega
        refine g_iload_n 31 O dX6_roundFrom_31 rfl 1 rfl ?_
        exact g_iret 32 O dX6_roundFrom_32 (by rw [hP0, ← e]; exact ⟨rfl, rfl⟩)
      · -- not taken
        have hlt : k < hr.1 := lt_of_nge (by omega) h9
        refine g_aload_n 12 O dX6_roundFrom_12 rfl 2 rfl ?_
        refine g_iload_n 13 O dX6_roundFrom_13 rfl 0 rfl ?_
        refine g_aload_n 14 O dX6_roundFrom_14 rfl 2 rfl ?_
        refine g_get 15 O (v := .ref (a 17)) inX6 0 rfl rfl 29 (by decide) kf_X6_60 rfl dX6_roundFrom_15 ?_
        refine g_iload_n 18 O dX6_roundFrom_18 rfl 0 rfl ?_
        refine g_iald 19 O 17 k rfl (rfl) (by omega) (by decide) dX6_roundFrom_19 ?_
        refine g_si (nI (tk z y (hr.2.1 k))) ((htk k hlt).trans (by rw [tkI, if_neg hy0])) ?_
        refine g_iload_n 20 O dX6_roundFrom_20 rfl 1 rfl ?_
        refine g_callV 21 O (na := 3) (av := [.int (nI k), .int (nI (tk z y (hr.2.1 k))), .int (nI (bR z y hr k wn))]) (c_X6_behind l E a mw msd mn mon mhn mrd mtn mad mpn se wo jf ow oj kf ff vf cf tf pb fat whl nw nwd njn rd so vl jg tko sdn hh_ ik kw kh kr kt kc ko (nI k) (nI (tk z y (hr.2.1 k))) (nI (bR z y hr k wn)) y z hy4 hrd hso hr hh k rfl hlt (tk z y (hr.2.1 k)) rfl (tk_lt (NR_pos (Nat.pos_of_ne_zero hy0))) (bR z y hr k wn) rfl (bR_lt hh hwn0 (by omega))) kl_X6_190 km_X6_behind kv_X6_behind ki_X6 kc_X6_behind (by decide +kernel) rfl (Nat.le_of_ble_eq_true rfl) (Nat.le_of_ble_eq_true rfl) (fun _ h => h) 0 rfl rfl (fun s => s) (fun _ _ _ _ h => h) rfl (Nat.le_of_ble_eq_true rfl) dX6_roundFrom_21 (fun v9 s9 hv9 => ?_)
        obtain ⟨rfl, rfl⟩ := hv9
        refine g_si (nI (bR z y hr (k + 1) wn)) (rfl) ?_
        refine g_istore_n 24 O (lv' := [(2, .int (nI (bR z y hr (k + 1) wn))), (3, .int (nI k)), (0, .ref (a 0)), (1, .int p0)]) dX6_roundFrom_24 rfl (by decide) rfl ?_
        refine g_iinc 25 O (v := nI (k + 1)) (q := 1) (lv' := [(3, .int (nI (k + 1))), (2, .int (nI (bR z y hr (k + 1) wn))), (0, .ref (a 0)), (1, .int p0)]) dX6_roundFrom_25 rfl (nI_1 k) (by decide) rfl ?_
        refine g_goto 28 O 4 dX6_roundFrom_28 (by decide) ?_
        refine g_sub [0, 1, 2, 3] (lv' := [(3, .int (nI (k + 1))), (2, .int (nI (bR z y hr (k + 1) wn))), (0, .ref (a 0)), (1, .int p0)]) rfl ?_
        exact ih4 (k + 1) (by omega) (by omega)
  exact L4 _ 0 (Nat.zero_le _) (Nat.lt_succ_self _)

set_option maxRecDepth 100000 in
set_option maxHeartbeats 4000000 in
theorem c_X6_anyhowNow (l : Launch) (E : Ev) (a : Nat → Nat) (mw msd mn mon mhn mrd mtn mad mpn : Int32) (se wo jf ow oj kf ff vf cf tf pb : Nat → Int32) (fat whl nw : Int32) (nwd njn : Nat → Int32) (rd : Int32) (so vl : Nat → Int64) (jg : Nat → Int32) (tko : Nat → Int32) (sdn hh_ : Int64) (ik kw kh kr kt : Int32) (kc ko : Nat → Int32) (y : Sy) (z : Nat → Nat) (hw : mn = nI y.1) (hy : YM wo jf y) (hz : SnW se z) (hr : Hr) (hh : HrW (mhn, kf, ff, vf, cf) hr) (hy0 : ¬ y.1 = 0) : Ctr l yX6_anyhowNow cX6_anyhowNow 5 (some .int) 4 115 E (wM E a) [.ref (a 0)] (((mw, msd, mn, mon, mhn, mrd, mtn, mad, mpn), (se, wo, jf, ow, oj, kf, ff, vf, cf, tf, pb), (fat, whl, nw, nwd, njn), (rd, so, vl, jg), tko, (sdn, hh_), (ik, kw, kh, kr, kt, kc, ko))) (pI (fun r x => r = nI (anyN z y hr) ∧ ∃ (so' vl' : Nat → Int64) (jg' tko' : Nat → Int32), x = ((mw, msd, mn, mon, mhn, mrd, mtn, mad, mpn), (se, wo, jf, ow, oj, kf, ff, vf, cf, tf, pb), (fat, whl, nw, nwd, njn), (nI (NR y), so', vl', jg'), tko', (sdn, hh_), (ik, kw, kh, kr, kt, kc, ko)) ∧ ∀ r, r < NR y → so' r = TR z y r)) := by
  refine Ctr.of' (by decide +kernel) (Nat.le_of_ble_eq_true rfl) (fun X P0 hP0 O => ?_)
  refine g_sub [0] (lv' := [(0, .ref (a 0))]) rfl ?_
  refine g_aload_n 0 O dX6_anyhowNow_0 rfl 0 rfl ?_
  refine g_aload_n 1 O dX6_anyhowNow_1 rfl 0 rfl ?_
  refine g_get 2 O (v := .int mn) inX6 0 rfl rfl 3 (by decide) kf_X6_97 rfl dX6_anyhowNow_2 ?_
  refine g_iconst 5 O (v := 0) dX6_anyhowNow_5 (by decide) ?_
  refine g_callV 6 O (na := 2) (av := [.int mn, .int 0]) (c_X6_lay l E a mw msd mn mon mhn mrd mtn mad mpn se wo jf ow oj kf ff vf cf tf pb fat whl nw nwd njn rd so vl jg tko sdn hh_ ik kw kh kr kt kc ko mn 0 y z y.1 hw rfl (YM0 hy) hz) kl_X6_106 km_X6_lay kv_X6_lay ki_X6 kc_X6_lay (by decide +kernel) rfl (Nat.le_of_ble_eq_true rfl) (Nat.le_of_ble_eq_true rfl) (fun _ h => h) 0 rfl rfl (fun s => s) (fun _ _ _ _ h => h) rfl (Nat.le_of_ble_eq_true rfl) dX6_anyhowNow_6 (fun v9 s9 hv9 => ?_)
  obtain ⟨rfl, so', vl', jg', rfl, hso⟩ := hv9
  refine g_aload_n 9 O dX6_anyhowNow_9 rfl 0 rfl ?_
  refine g_callV 10 O (na := 0) (av := []) (c_X6_layTakes l E a mw msd mn mon mhn mrd mtn mad mpn se wo jf ow oj kf ff vf cf tf pb fat whl nw nwd njn (nI (NR y)) so' vl' jg' tko sdn hh_ ik kw kh kr kt kc ko y z hy.1 rfl hso hr hh) kl_X6_200 km_X6_layTakes kv_X6_layTakes ki_X6 kc_X6_layTakes (by decide +kernel) rfl (Nat.le_of_ble_eq_true rfl) (Nat.le_of_ble_eq_true rfl) (fun _ h => h) 0 rfl rfl (fun s => s) (fun _ _ _ _ h => h) rfl (Nat.le_of_ble_eq_true rfl) dX6_anyhowNow_10 (fun v9 s9 hv9 => ?_)
  obtain ⟨rfl, tko', rfl, htk⟩ := hv9
  refine g_aload_n 13 O dX6_anyhowNow_13 rfl 0 rfl ?_
  refine g_callV 14 O (na := 0) (av := []) (c_X6_some l E a mw msd mn mon mhn mrd mtn mad mpn se wo jf ow oj kf ff vf cf tf pb fat whl nw nwd njn (nI (NR y)) so' vl' jg' tko' sdn hh_ ik kw kh kr kt kc ko y z hy.1 rfl hso) kl_X6_203 km_X6_some kv_X6_some ki_X6 kc_X6_some (by decide +kernel) rfl (Nat.le_of_ble_eq_true rfl) (Nat.le_of_ble_eq_true rfl) (fun _ h => h) 0 rfl rfl (fun s => s) (fun _ _ _ _ h => h) rfl (Nat.le_of_ble_eq_true rfl) dX6_anyhowNow_14 (fun v9 s9 hv9 => ?_)
  obtain ⟨rfl, rfl⟩ := hv9
  refine g_lstore_n 17 O (lv' := [(1, .long (som z y)), (0, .ref (a 0))]) dX6_anyhowNow_17 rfl (by decide) rfl ?_
  refine g_iconst 18 O (v := 0) dX6_anyhowNow_18 (by decide) ?_
  refine g_istore_n 19 O (lv' := [(3, .int 0), (1, .long (som z y)), (0, .ref (a 0))]) dX6_anyhowNow_19 rfl (by decide) rfl ?_
  refine g_iconst 20 O (v := 0) dX6_anyhowNow_20 (by decide) ?_
  refine g_istore 21 O (lv' := [(4, .int 0), (3, .int 0), (1, .long (som z y)), (0, .ref (a 0))]) dX6_anyhowNow_21 (by decide) rfl ?_
  refine g_sub [0, 1, 2, 3] (lv' := [(4, .int 0), (3, .int 0), (1, .long (som z y)), (0, .ref (a 0))]) rfl ?_
  have L23 : ∀ (fuel : Nat) (i : Nat) (hi : i ≤ 64), 64 - i < fuel → G l E (wM E a) P0 X 5 (((mw, msd, mn, mon, mhn, mrd, mtn, mad, mpn), (se, wo, jf, ow, oj, kf, ff, vf, cf, tf, pb), (fat, whl, nw, nwd, njn), (nI (NR y), so', vl', jg'), tko', (sdn, hh_), (ik, kw, kh, kr, kt, kc, ko))) 23 [(4, .int (nI i)), (3, .int (nI (cn (fun u => tb (som z y) (bR z y hr hr.1 u)) i))), (1, .long (som z y)), (0, .ref (a 0))] [] := by
    intro fuel
    induction fuel with
    | zero => intro i hi hfu; exact absurd hfu (Nat.not_lt_zero _)
    | succ fuel ih23 =>
      intro i hi hfu
      refine g_iload 23 O dX6_anyhowNow_23 0 rfl ?_
      refine g_bipush 25 O (v := 64) dX6_anyhowNow_25 (by decide) ?_
      refine g_icmp_ge 27 O 57 dX6_anyhowNow_27 (by decide) (fun h27 => ?_) (fun h27 => ?_)
      · -- taken
        have e : i = 64 := by have := ge_of_le (n := 64) (by omega) (by decide) h27; omega
        subst e
        refine g_iload_n 57 O dX6_anyhowNow_57 rfl 1 rfl ?_
        exact g_iret 58 O dX6_anyhowNow_58 (by rw [hP0]; exact ⟨_, rfl, rfl, so', vl', jg', tko', rfl, hso⟩)
      · -- not taken
        have hlt : i < 64 := lt_of_nge (n := 64) (by omega) h27
        refine g_iload_n 30 O dX6_anyhowNow_30 rfl 1 rfl ?_
        refine g_lload_n 31 O dX6_anyhowNow_31 rfl 2 rfl ?_
        refine g_aload_n 32 O dX6_anyhowNow_32 rfl 3 rfl ?_
        refine g_iload 33 O dX6_anyhowNow_33 0 rfl ?_
        refine g_callV 35 O (na := 1) (av := [.int (nI i)]) (c_X6_roundFrom l E a mw msd mn mon mhn mrd mtn mad mpn se wo jf ow oj kf ff vf cf tf pb fat whl nw nwd njn (nI (NR y)) so' vl' jg' tko' sdn hh_ ik kw kh kr kt kc ko (nI i) y z hy.1 rfl hso hr hh hy0 htk i rfl hlt) kl_X6_207 km_X6_roundFrom kv_X6_roundFrom ki_X6 kc_X6_roundFrom (by decide +kernel) rfl (Nat.le_of_ble_eq_true rfl) (Nat.le_of_ble_eq_true rfl) (fun _ h => h) 0 rfl rfl (fun s => s) (fun _ _ _ _ h => h) rfl (Nat.le_of_ble_eq_true rfl) dX6_anyhowNow_35 (fun v9 s9 hv9 => ?_)
        obtain ⟨rfl, rfl⟩ := hv9
        refine g_callS 38 O (na := 2) (av := [.long (som z y), .int (nI (bR z y hr hr.1 i))]) (c_X6_isIn l E _ _ (som z y) (nI (bR z y hr hr.1 i)) (bR z y hr hr.1 i) rfl (bR_lt hh hlt (Nat.le_refl _))) kl_X6_158 ks_X6_isIn ki_X6 kc_X6_isIn (by decide +kernel) rfl (Nat.le_of_ble_eq_true rfl) (Nat.le_of_ble_eq_true rfl) (fun _ h => h) (fun s => s) (fun _ _ _ _ h => h) rfl (Nat.le_of_ble_eq_true rfl) dX6_anyhowNow_38 (fun v9 s9 hv9 => ?_)
        obtain ⟨rfl, rfl⟩ := hv9
        refine g_if_eq 41 O 48 dX6_anyhowNow_41 (by decide) (fun h41 => ?_) (fun h41 => ?_)
        · -- taken
          refine g_iconst 48 O (v := 0) dX6_anyhowNow_48 (by decide) ?_
          refine g_iadd 49 O dX6_anyhowNow_49 ?_
          refine g_si (nI (cn (fun u => tb (som z y) (bR z y hr hr.1 u)) (i + 1))) (cn_f (p := (fun u => tb (som z y) (bR z y hr hr.1 u))) (bi_f h41)) ?_
          refine g_istore_n 50 O (lv' := [(3, .int (nI (cn (fun u => tb (som z y) (bR z y hr hr.1 u)) (i + 1)))), (4, .int (nI i)), (1, .long (som z y)), (0, .ref (a 0))]) dX6_anyhowNow_50 rfl (by decide) rfl ?_
          refine g_iinc 51 O (v := nI (i + 1)) (q := 1) (lv' := [(4, .int (nI (i + 1))), (3, .int (nI (cn (fun u => tb (som z y) (bR z y hr hr.1 u)) (i + 1)))), (1, .long (som z y)), (0, .ref (a 0))]) dX6_anyhowNow_51 rfl (nI_1 i) (by decide) rfl ?_
          refine g_goto 54 O 23 dX6_anyhowNow_54 (by decide) ?_
          refine g_sub [0, 1, 2, 3] (lv' := [(4, .int (nI (i + 1))), (3, .int (nI (cn (fun u => tb (som z y) (bR z y hr hr.1 u)) (i + 1)))), (1, .long (som z y)), (0, .ref (a 0))]) rfl ?_
          exact ih23 (i + 1) (by omega) (by omega)
        · -- not taken
          refine g_iconst 44 O (v := 1) dX6_anyhowNow_44 (by decide) ?_
          refine g_goto 45 O 49 dX6_anyhowNow_45 (by decide) ?_
          refine g_iadd 49 O dX6_anyhowNow_49 ?_
          refine g_si (nI (cn (fun u => tb (som z y) (bR z y hr hr.1 u)) (i + 1))) (cn_t (p := (fun u => tb (som z y) (bR z y hr hr.1 u))) (bi_t h41)) ?_
          refine g_istore_n 50 O (lv' := [(3, .int (nI (cn (fun u => tb (som z y) (bR z y hr hr.1 u)) (i + 1)))), (4, .int (nI i)), (1, .long (som z y)), (0, .ref (a 0))]) dX6_anyhowNow_50 rfl (by decide) rfl ?_
          refine g_iinc 51 O (v := nI (i + 1)) (q := 1) (lv' := [(4, .int (nI (i + 1))), (3, .int (nI (cn (fun u => tb (som z y) (bR z y hr hr.1 u)) (i + 1)))), (1, .long (som z y)), (0, .ref (a 0))]) dX6_anyhowNow_51 rfl (nI_1 i) (by decide) rfl ?_
          refine g_goto 54 O 23 dX6_anyhowNow_54 (by decide) ?_
          refine g_sub [0, 1, 2, 3] (lv' := [(4, .int (nI (i + 1))), (3, .int (nI (cn (fun u => tb (som z y) (bR z y hr hr.1 u)) (i + 1)))), (1, .long (som z y)), (0, .ref (a 0))]) rfl ?_
          exact ih23 (i + 1) (by omega) (by omega)
  exact L23 _ 0 (Nat.zero_le _) (Nat.lt_succ_self _)

theorem lef_QL {z : Nat → Nat} {y o : Sy} {p : Int32} (h : ¬ p = 0) : lefN z y o p = nI (fB (fun f => decide (wl z y o &&& Wf f = if p = 1 then wl z y o else 0)) 6) := by
  rw [lefN, if_neg h]
  by_cases h1 : p = 1
  · rw [if_pos h1]
    congr 1
    apply fB_cong
    intro k _
    rw [if_pos h1]
    exact decide_eq_decide.mpr (in_all _ _).symm
  · rw [if_neg h1]
    congr 1
    apply fB_cong
    intro k _
    rw [if_neg h1]

set_option maxRecDepth 100000 in
set_option maxHeartbeats 4000000 in
theorem c_X6_leftNow (l : Launch) (E : Ev) (a : Nat → Nat) (mw msd mn mon mhn mrd mtn mad mpn : Int32) (se wo jf ow oj kf ff vf cf tf pb : Nat → Int32) (fat whl nw : Int32) (nwd njn : Nat → Int32) (rd : Int32) (so vl : Nat → Int64) (jg : Nat → Int32) (tko : Nat → Int32) (sdn hh_ : Int64) (ik kw kh kr kt : Int32) (kc ko : Nat → Int32) (p0 : Int32) (y : Sy) (z : Nat → Nat) (hw : mn = nI y.1) (hy : YM wo jf y) (hz : SnW se z) (o : Sy) (ho : mon = nI o.1) (hyo : YM ow oj o) : Ctr l yX6_leftNow cX6_leftNow 8 (some .int) 4 115 E (wM E a) [.ref (a 0), .int p0] (((mw, msd, mn, mon, mhn, mrd, mtn, mad, mpn), (se, wo, jf, ow, oj, kf, ff, vf, cf, tf, pb), (fat, whl, nw, nwd, njn), (rd, so, vl, jg), tko, (sdn, hh_), (ik, kw, kh, kr, kt, kc, ko))) (pI (fun r x => r = lefN z y o p0 ∧ ∃ (so' vl' : Nat → Int64) (jg' : Nat → Int32), x = ((mw, msd, mn, mon, mhn, mrd, mtn, mad, mpn), (se, wo, jf, ow, oj, kf, ff, vf, cf, tf, pb), (fat, whl, nw, nwd, njn), (nI (NR y), so', vl', jg'), tko, (sdn, hh_), (ik, kw, kh, kr, kt, kc, ko)) ∧ ∀ r, r < NR y → so' r = TR z y r)) := by
  refine Ctr.of' (by decide +kernel) (Nat.le_of_ble_eq_true rfl) (fun X P0 hP0 O => ?_)
  refine g_sub [0, 1] (lv' := [(0, .ref (a 0)), (1, .int p0)]) rfl ?_
  refine g_ldc2 0 O (v := (-1)) dX6_leftNow_0 kk_X6_134 ?_
  refine g_lstore_n 3 O (lv' := [(2, .long ((-1))), (0, .ref (a 0)), (1, .int p0)]) dX6_leftNow_3 rfl (by decide) rfl ?_
  refine g_aload_n 4 O dX6_leftNow_4 rfl 1 rfl ?_
  refine g_get 5 O (v := .int mon) inX6 0 rfl rfl 6 (by decide) kf_X6_100 rfl dX6_leftNow_5 ?_
  refine g_if_le 8 O 25 dX6_leftNow_8 (by decide) (fun h8 => ?_) (fun h8 => ?_)
  · -- taken
    have o0 : o.1 = 0 := by rw [ho] at h8; exact Nat.le_zero.mp (ge_of_le (n := o.1) (i := 0) (by decide) (by have := hyo.1; omega) h8)
    refine g_aload_n 25 O dX6_leftNow_25 rfl 1 rfl ?_
    refine g_aload_n 26 O dX6_leftNow_26 rfl 1 rfl ?_
    refine g_get 27 O (v := .int mn) inX6 0 rfl rfl 3 (by decide) kf_X6_97 rfl dX6_leftNow_27 ?_
    refine g_iconst 30 O (v := 0) dX6_leftNow_30 (by decide) ?_
    refine g_callV 31 O (na := 2) (av := [.int mn, .int 0]) (c_X6_lay l E a mw msd mn mon mhn mrd mtn mad mpn se wo jf ow oj kf ff vf cf tf pb fat whl nw nwd njn rd so vl jg tko sdn hh_ ik kw kh kr kt kc ko mn 0 y z y.1 hw rfl (YM0 hy) hz) kl_X6_106 km_X6_lay kv_X6_lay ki_X6 kc_X6_lay (by decide +kernel) rfl (Nat.le_of_ble_eq_true rfl) (Nat.le_of_ble_eq_true rfl) (fun _ h => h) 0 rfl rfl (fun s => s) (fun _ _ _ _ h => h) rfl (Nat.le_of_ble_eq_true rfl) dX6_leftNow_31 (fun v9 s9 hv9 => ?_)
    obtain ⟨rfl, so', vl', jg', rfl, hso⟩ := hv9
    refine g_lload_n 34 O dX6_leftNow_34 rfl 0 rfl ?_
    refine g_aload_n 35 O dX6_leftNow_35 rfl 1 rfl ?_
    refine g_callV 36 O (na := 0) (av := []) (c_X6_some l E a mw msd mn mon mhn mrd mtn mad mpn se wo jf ow oj kf ff vf cf tf pb fat whl nw nwd njn (nI (NR y)) so' vl' jg' tko sdn hh_ ik kw kh kr kt kc ko y z hy.1 rfl hso) kl_X6_203 km_X6_some kv_X6_some ki_X6 kc_X6_some (by decide +kernel) rfl (Nat.le_of_ble_eq_true rfl) (Nat.le_of_ble_eq_true rfl) (fun _ h => h) 0 rfl rfl (fun s => s) (fun _ _ _ _ h => h) rfl (Nat.le_of_ble_eq_true rfl) dX6_leftNow_36 (fun v9 s9 hv9 => ?_)
    obtain ⟨rfl, rfl⟩ := hv9
    refine g_land 39 O dX6_leftNow_39 ?_
    refine g_sl (wl z y o) (by rw [wl, if_pos o0]; exact Int64.neg_one_and) ?_
    refine g_lstore_n 40 O (lv' := [(2, .long (wl z y o)), (0, .ref (a 0)), (1, .int p0)]) dX6_leftNow_40 rfl (by decide) rfl ?_
    refine g_iload_n 41 O dX6_leftNow_41 rfl 2 rfl ?_
    refine g_if_ne 42 O 50 dX6_leftNow_42 (by decide) (fun h42 => ?_) (fun h42 => ?_)
    · -- taken
      refine g_iconst 50 O (v := 0) dX6_leftNow_50 (by decide) ?_
      refine g_istore 51 O (lv' := [(4, .int 0), (2, .long (wl z y o)), (0, .ref (a 0)), (1, .int p0)]) dX6_leftNow_51 (by decide) rfl ?_
      refine g_iconst 53 O (v := 0) dX6_leftNow_53 (by decide) ?_
      refine g_istore 54 O (lv' := [(5, .int 0), (4, .int 0), (2, .long (wl z y o)), (0, .ref (a 0)), (1, .int p0)]) dX6_leftNow_54 (by decide) rfl ?_
      refine g_sub [0, 1, 2, 3, 4] (lv' := [(5, .int 0), (4, .int 0), (2, .long (wl z y o)), (0, .ref (a 0)), (1, .int p0)]) rfl ?_
      have L56 : ∀ (fuel : Nat) (i : Nat) (hi : i ≤ 6), 6 - i < fuel → G l E (wM E a) P0 X 8 (((mw, msd, mn, mon, mhn, mrd, mtn, mad, mpn), (se, wo, jf, ow, oj, kf, ff, vf, cf, tf, pb), (fat, whl, nw, nwd, njn), (nI (NR y), so', vl', jg'), tko, (sdn, hh_), (ik, kw, kh, kr, kt, kc, ko))) 56 [(5, .int (nI i)), (4, .int (nI (fB (fun f => decide (wl z y o &&& Wf f = if p0 = 1 then wl z y o else 0)) i))), (2, .long (wl z y o)), (0, .ref (a 0)), (1, .int p0)] [] := by
        intro fuel
        induction fuel with
        | zero => intro i hi hfu; exact absurd hfu (Nat.not_lt_zero _)
        | succ fuel ih56 =>
          intro i hi hfu
          have hB := fB_lt (fun f => decide (wl z y o &&& Wf f = if p0 = 1 then wl z y o else 0)) i
          refine g_iload 56 O dX6_leftNow_56 0 rfl ?_
          refine g_bipush 58 O (v := 6) dX6_leftNow_58 (by decide) ?_
          refine g_icmp_ge 60 O 107 dX6_leftNow_60 (by decide) (fun h60 => ?_) (fun h60 => ?_)
          · -- taken
            have e : i = 6 := by have := ge_of_le (n := 6) (by omega) (by decide) h60; omega
            subst e
            refine g_iload 107 O dX6_leftNow_107 1 rfl ?_
            exact g_iret 109 O dX6_leftNow_109 (by rw [hP0, lef_QL h42]; exact ⟨_, rfl, rfl, so', vl', jg', rfl, hso⟩)
          · -- not taken
            have hlt : i < 6 := lt_of_nge (n := 6) (by omega) h60
            have h26 := p6 i hlt
            refine g_lload_n 63 O dX6_leftNow_63 rfl 2 rfl ?_
            refine g_iload 64 O dX6_leftNow_64 0 rfl ?_
            refine g_callS 66 O (na := 1) (av := [.int (nI i)]) (c_X6_worldsOf l E _ _ (nI i) i rfl hlt) kl_X6_130 ks_X6_worldsOf ki_X6 kc_X6_worldsOf (by decide +kernel) rfl (Nat.le_of_ble_eq_true rfl) (Nat.le_of_ble_eq_true rfl) (fun _ h => h) (fun s => s) (fun _ _ _ _ h => h) rfl (Nat.le_of_ble_eq_true rfl) dX6_leftNow_66 (fun v9 s9 hv9 => ?_)
            obtain ⟨rfl, rfl⟩ := hv9
            refine g_land 69 O dX6_leftNow_69 ?_
            refine g_lstore 70 O (lv' := [(6, .long ((wl z y o) &&& (Wf i))), (5, .int (nI i)), (4, .int (nI (fB (fun f => decide (wl z y o &&& Wf f = if p0 = 1 then wl z y o else 0)) i))), (2, .long (wl z y o)), (0, .ref (a 0)), (1, .int p0)]) dX6_leftNow_70 (by decide) rfl ?_
            refine g_iload 72 O dX6_leftNow_72 2 rfl ?_
            refine g_lload 74 O dX6_leftNow_74 0 rfl ?_
            refine g_iload_n 76 O dX6_leftNow_76 rfl 5 rfl ?_
            refine g_iconst 77 O (v := 1) dX6_leftNow_77 (by decide) ?_
            refine g_icmp_ne 78 O 85 dX6_leftNow_78 (by decide) (fun h78 => ?_) (fun h78 => ?_)
            · -- taken
              refine g_lconst 85 O (v := 0) dX6_leftNow_85 (by decide) ?_
              refine g_lcmp 86 O dX6_leftNow_86 ?_
              refine g_if_ne 87 O 97 dX6_leftNow_87 (by decide) (fun h87 => ?_) (fun h87 => ?_)
              · -- taken
                refine g_iconst 97 O (v := 0) dX6_leftNow_97 (by decide) ?_
                refine g_ior 98 O dX6_leftNow_98 ?_
                refine g_si (nI (fB (fun f => decide (wl z y o &&& Wf f = if p0 = 1 then wl z y o else 0)) (i + 1))) (by rw [fB_f (q := (fun f => decide (wl z y o &&& Wf f = if p0 = 1 then wl z y o else 0))) (decide_eq_false (by rw [if_neg h78]; exact lc1 h87))]; exact Int32.or_zero) ?_
                refine g_istore 99 O (lv' := [(4, .int (nI (fB (fun f => decide (wl z y o &&& Wf f = if p0 = 1 then wl z y o else 0)) (i + 1)))), (6, .long ((wl z y o) &&& (Wf i))), (5, .int (nI i)), (2, .long (wl z y o)), (0, .ref (a 0)), (1, .int p0)]) dX6_leftNow_99 (by decide) rfl ?_
                refine g_iinc 101 O (v := nI (i + 1)) (q := 2) (lv' := [(5, .int (nI (i + 1))), (4, .int (nI (fB (fun f => decide (wl z y o &&& Wf f = if p0 = 1 then wl z y o else 0)) (i + 1)))), (6, .long ((wl z y o) &&& (Wf i))), (2, .long (wl z y o)), (0, .ref (a 0)), (1, .int p0)]) dX6_leftNow_101 rfl (nI_1 i) (by decide) rfl ?_
                refine g_goto 104 O 56 dX6_leftNow_104 (by decide) ?_
                refine g_sub [0, 1, 3, 4, 5] (lv' := [(5, .int (nI (i + 1))), (4, .int (nI (fB (fun f => decide (wl z y o &&& Wf f = if p0 = 1 then wl z y o else 0)) (i + 1)))), (2, .long (wl z y o)), (0, .ref (a 0)), (1, .int p0)]) rfl ?_
                exact ih56 (i + 1) (by omega) (by omega)
              · -- not taken
                refine g_iconst 90 O (v := 1) dX6_leftNow_90 (by decide) ?_
                refine g_iload 91 O dX6_leftNow_91 1 rfl ?_
                refine g_ishl 93 O dX6_leftNow_93 ?_
                refine g_goto 94 O 98 dX6_leftNow_94 (by decide) ?_
                refine g_ior 98 O dX6_leftNow_98 ?_
                refine g_si (nI (fB (fun f => decide (wl z y o &&& Wf f = if p0 = 1 then wl z y o else 0)) (i + 1))) (by rw [fB_t (q := (fun f => decide (wl z y o &&& Wf f = if p0 = 1 then wl z y o else 0))) (decide_eq_true (by rw [if_neg h78]; exact lc0 h87))]; exact orI i hlt _ (by omega) hB) ?_
                refine g_istore 99 O (lv' := [(4, .int (nI (fB (fun f => decide (wl z y o &&& Wf f = if p0 = 1 then wl z y o else 0)) (i + 1)))), (6, .long ((wl z y o) &&& (Wf i))), (5, .int (nI i)), (2, .long (wl z y o)), (0, .ref (a 0)), (1, .int p0)]) dX6_leftNow_99 (by decide) rfl ?_
                refine g_iinc 101 O (v := nI (i + 1)) (q := 2) (lv' := [(5, .int (nI (i + 1))), (4, .int (nI (fB (fun f => decide (wl z y o &&& Wf f = if p0 = 1 then wl z y o else 0)) (i + 1)))), (6, .long ((wl z y o) &&& (Wf i))), (2, .long (wl z y o)), (0, .ref (a 0)), (1, .int p0)]) dX6_leftNow_101 rfl (nI_1 i) (by decide) rfl ?_
                refine g_goto 104 O 56 dX6_leftNow_104 (by decide) ?_
                refine g_sub [0, 1, 3, 4, 5] (lv' := [(5, .int (nI (i + 1))), (4, .int (nI (fB (fun f => decide (wl z y o &&& Wf f = if p0 = 1 then wl z y o else 0)) (i + 1)))), (2, .long (wl z y o)), (0, .ref (a 0)), (1, .int p0)]) rfl ?_
                exact ih56 (i + 1) (by omega) (by omega)
            · -- not taken
              refine g_lload_n 81 O dX6_leftNow_81 rfl 3 rfl ?_
              refine g_goto 82 O 86 dX6_leftNow_82 (by decide) ?_
              refine g_lcmp 86 O dX6_leftNow_86 ?_
              refine g_if_ne 87 O 97 dX6_leftNow_87 (by decide) (fun h87 => ?_) (fun h87 => ?_)
              · -- taken
                refine g_iconst 97 O (v := 0) dX6_leftNow_97 (by decide) ?_
                refine g_ior 98 O dX6_leftNow_98 ?_
                refine g_si (nI (fB (fun f => decide (wl z y o &&& Wf f = if p0 = 1 then wl z y o else 0)) (i + 1))) (by rw [fB_f (q := (fun f => decide (wl z y o &&& Wf f = if p0 = 1 then wl z y o else 0))) (decide_eq_false (by rw [if_pos h78]; exact lc1 h87))]; exact Int32.or_zero) ?_
                refine g_istore 99 O (lv' := [(4, .int (nI (fB (fun f => decide (wl z y o &&& Wf f = if p0 = 1 then wl z y o else 0)) (i + 1)))), (6, .long ((wl z y o) &&& (Wf i))), (5, .int (nI i)), (2, .long (wl z y o)), (0, .ref (a 0)), (1, .int p0)]) dX6_leftNow_99 (by decide) rfl ?_
                refine g_iinc 101 O (v := nI (i + 1)) (q := 2) (lv' := [(5, .int (nI (i + 1))), (4, .int (nI (fB (fun f => decide (wl z y o &&& Wf f = if p0 = 1 then wl z y o else 0)) (i + 1)))), (6, .long ((wl z y o) &&& (Wf i))), (2, .long (wl z y o)), (0, .ref (a 0)), (1, .int p0)]) dX6_leftNow_101 rfl (nI_1 i) (by decide) rfl ?_
                refine g_goto 104 O 56 dX6_leftNow_104 (by decide) ?_
                refine g_sub [0, 1, 3, 4, 5] (lv' := [(5, .int (nI (i + 1))), (4, .int (nI (fB (fun f => decide (wl z y o &&& Wf f = if p0 = 1 then wl z y o else 0)) (i + 1)))), (2, .long (wl z y o)), (0, .ref (a 0)), (1, .int p0)]) rfl ?_
                exact ih56 (i + 1) (by omega) (by omega)
              · -- not taken
                refine g_iconst 90 O (v := 1) dX6_leftNow_90 (by decide) ?_
                refine g_iload 91 O dX6_leftNow_91 1 rfl ?_
                refine g_ishl 93 O dX6_leftNow_93 ?_
                refine g_goto 94 O 98 dX6_leftNow_94 (by decide) ?_
                refine g_ior 98 O dX6_leftNow_98 ?_
                refine g_si (nI (fB (fun f => decide (wl z y o &&& Wf f = if p0 = 1 then wl z y o else 0)) (i + 1))) (by rw [fB_t (q := (fun f => decide (wl z y o &&& Wf f = if p0 = 1 then wl z y o else 0))) (decide_eq_true (by rw [if_pos h78]; exact lc0 h87))]; exact orI i hlt _ (by omega) hB) ?_
                refine g_istore 99 O (lv' := [(4, .int (nI (fB (fun f => decide (wl z y o &&& Wf f = if p0 = 1 then wl z y o else 0)) (i + 1)))), (6, .long ((wl z y o) &&& (Wf i))), (5, .int (nI i)), (2, .long (wl z y o)), (0, .ref (a 0)), (1, .int p0)]) dX6_leftNow_99 (by decide) rfl ?_
                refine g_iinc 101 O (v := nI (i + 1)) (q := 2) (lv' := [(5, .int (nI (i + 1))), (4, .int (nI (fB (fun f => decide (wl z y o &&& Wf f = if p0 = 1 then wl z y o else 0)) (i + 1)))), (6, .long ((wl z y o) &&& (Wf i))), (2, .long (wl z y o)), (0, .ref (a 0)), (1, .int p0)]) dX6_leftNow_101 rfl (nI_1 i) (by decide) rfl ?_
                refine g_goto 104 O 56 dX6_leftNow_104 (by decide) ?_
                refine g_sub [0, 1, 3, 4, 5] (lv' := [(5, .int (nI (i + 1))), (4, .int (nI (fB (fun f => decide (wl z y o &&& Wf f = if p0 = 1 then wl z y o else 0)) (i + 1)))), (2, .long (wl z y o)), (0, .ref (a 0)), (1, .int p0)]) rfl ?_
                exact ih56 (i + 1) (by omega) (by omega)
      exact L56 _ 0 (Nat.zero_le _) (Nat.lt_succ_self _)
    · -- not taken
      refine g_lload_n 45 O dX6_leftNow_45 rfl 0 rfl ?_
      refine g_callS 46 O (na := 1) (av := [.long (wl z y o)]) (c_X6_size l E _ _ (wl z y o)) kl_X6_151 ks_X6_size ki_X6 kc_X6_size (by decide +kernel) rfl (Nat.le_of_ble_eq_true rfl) (Nat.le_of_ble_eq_true rfl) (fun _ h => h) (fun s => s) (fun _ _ _ _ h => h) rfl (Nat.le_of_ble_eq_true rfl) dX6_leftNow_46 (fun v9 s9 hv9 => ?_)
      obtain ⟨rfl, rfl⟩ := hv9
      exact g_iret 49 O dX6_leftNow_49 (by rw [hP0, lefN, if_pos h42]; exact ⟨_, rfl, rfl, so', vl', jg', rfl, hso⟩)
  · -- not taken
    have o0 : ¬ o.1 = 0 := fun e => h8 (by rw [ho, e]; decide)
    refine g_aload_n 11 O dX6_leftNow_11 rfl 1 rfl ?_
    refine g_aload_n 12 O dX6_leftNow_12 rfl 1 rfl ?_
    refine g_get 13 O (v := .int mon) inX6 0 rfl rfl 6 (by decide) kf_X6_100 rfl dX6_leftNow_13 ?_
    refine g_iconst 16 O (v := 1) dX6_leftNow_16 (by decide) ?_
    refine g_callV 17 O (na := 2) (av := [.int mon, .int 1]) (c_X6_lay l E a mw msd mn mon mhn mrd mtn mad mpn se wo jf ow oj kf ff vf cf tf pb fat whl nw nwd njn rd so vl jg tko sdn hh_ ik kw kh kr kt kc ko mon 1 o z o.1 ho rfl (YM1 hyo) hz) kl_X6_106 km_X6_lay kv_X6_lay ki_X6 kc_X6_lay (by decide +kernel) rfl (Nat.le_of_ble_eq_true rfl) (Nat.le_of_ble_eq_true rfl) (fun _ h => h) 0 rfl rfl (fun s => s) (fun _ _ _ _ h => h) rfl (Nat.le_of_ble_eq_true rfl) dX6_leftNow_17 (fun v9 s9 hv9 => ?_)
    obtain ⟨rfl, so1, vl1, jg1, rfl, hso1⟩ := hv9
    refine g_aload_n 20 O dX6_leftNow_20 rfl 1 rfl ?_
    refine g_callV 21 O (na := 0) (av := []) (c_X6_some l E a mw msd mn mon mhn mrd mtn mad mpn se wo jf ow oj kf ff vf cf tf pb fat whl nw nwd njn (nI (NR o)) so1 vl1 jg1 tko sdn hh_ ik kw kh kr kt kc ko o z hyo.1 rfl hso1) kl_X6_203 km_X6_some kv_X6_some ki_X6 kc_X6_some (by decide +kernel) rfl (Nat.le_of_ble_eq_true rfl) (Nat.le_of_ble_eq_true rfl) (fun _ h => h) 0 rfl rfl (fun s => s) (fun _ _ _ _ h => h) rfl (Nat.le_of_ble_eq_true rfl) dX6_leftNow_21 (fun v9 s9 hv9 => ?_)
    obtain ⟨rfl, rfl⟩ := hv9
    refine g_lstore_n 24 O (lv' := [(2, .long (som z o)), (0, .ref (a 0)), (1, .int p0)]) dX6_leftNow_24 rfl (by decide) rfl ?_
    refine g_aload_n 25 O dX6_leftNow_25 rfl 1 rfl ?_
    refine g_aload_n 26 O dX6_leftNow_26 rfl 1 rfl ?_
    refine g_get 27 O (v := .int mn) inX6 0 rfl rfl 3 (by decide) kf_X6_97 rfl dX6_leftNow_27 ?_
    refine g_iconst 30 O (v := 0) dX6_leftNow_30 (by decide) ?_
    refine g_callV 31 O (na := 2) (av := [.int mn, .int 0]) (c_X6_lay l E a mw msd mn mon mhn mrd mtn mad mpn se wo jf ow oj kf ff vf cf tf pb fat whl nw nwd njn (nI (NR o)) so1 vl1 jg1 tko sdn hh_ ik kw kh kr kt kc ko mn 0 y z y.1 hw rfl (YM0 hy) hz) kl_X6_106 km_X6_lay kv_X6_lay ki_X6 kc_X6_lay (by decide +kernel) rfl (Nat.le_of_ble_eq_true rfl) (Nat.le_of_ble_eq_true rfl) (fun _ h => h) 0 rfl rfl (fun s => s) (fun _ _ _ _ h => h) rfl (Nat.le_of_ble_eq_true rfl) dX6_leftNow_31 (fun v9 s9 hv9 => ?_)
    obtain ⟨rfl, so', vl', jg', rfl, hso⟩ := hv9
    refine g_lload_n 34 O dX6_leftNow_34 rfl 0 rfl ?_
    refine g_aload_n 35 O dX6_leftNow_35 rfl 1 rfl ?_
    refine g_callV 36 O (na := 0) (av := []) (c_X6_some l E a mw msd mn mon mhn mrd mtn mad mpn se wo jf ow oj kf ff vf cf tf pb fat whl nw nwd njn (nI (NR y)) so' vl' jg' tko sdn hh_ ik kw kh kr kt kc ko y z hy.1 rfl hso) kl_X6_203 km_X6_some kv_X6_some ki_X6 kc_X6_some (by decide +kernel) rfl (Nat.le_of_ble_eq_true rfl) (Nat.le_of_ble_eq_true rfl) (fun _ h => h) 0 rfl rfl (fun s => s) (fun _ _ _ _ h => h) rfl (Nat.le_of_ble_eq_true rfl) dX6_leftNow_36 (fun v9 s9 hv9 => ?_)
    obtain ⟨rfl, rfl⟩ := hv9
    refine g_land 39 O dX6_leftNow_39 ?_
    refine g_sl (wl z y o) (by rw [wl, if_neg o0]; exact Int64.and_comm _ _) ?_
    refine g_lstore_n 40 O (lv' := [(2, .long (wl z y o)), (0, .ref (a 0)), (1, .int p0)]) dX6_leftNow_40 rfl (by decide) rfl ?_
    refine g_iload_n 41 O dX6_leftNow_41 rfl 2 rfl ?_
    refine g_if_ne 42 O 50 dX6_leftNow_42 (by decide) (fun h42 => ?_) (fun h42 => ?_)
    · -- taken
      refine g_iconst 50 O (v := 0) dX6_leftNow_50 (by decide) ?_
      refine g_istore 51 O (lv' := [(4, .int 0), (2, .long (wl z y o)), (0, .ref (a 0)), (1, .int p0)]) dX6_leftNow_51 (by decide) rfl ?_
      refine g_iconst 53 O (v := 0) dX6_leftNow_53 (by decide) ?_
      refine g_istore 54 O (lv' := [(5, .int 0), (4, .int 0), (2, .long (wl z y o)), (0, .ref (a 0)), (1, .int p0)]) dX6_leftNow_54 (by decide) rfl ?_
      refine g_sub [0, 1, 2, 3, 4] (lv' := [(5, .int 0), (4, .int 0), (2, .long (wl z y o)), (0, .ref (a 0)), (1, .int p0)]) rfl ?_
      have L56 : ∀ (fuel : Nat) (i : Nat) (hi : i ≤ 6), 6 - i < fuel → G l E (wM E a) P0 X 8 (((mw, msd, mn, mon, mhn, mrd, mtn, mad, mpn), (se, wo, jf, ow, oj, kf, ff, vf, cf, tf, pb), (fat, whl, nw, nwd, njn), (nI (NR y), so', vl', jg'), tko, (sdn, hh_), (ik, kw, kh, kr, kt, kc, ko))) 56 [(5, .int (nI i)), (4, .int (nI (fB (fun f => decide (wl z y o &&& Wf f = if p0 = 1 then wl z y o else 0)) i))), (2, .long (wl z y o)), (0, .ref (a 0)), (1, .int p0)] [] := by
        intro fuel
        induction fuel with
        | zero => intro i hi hfu; exact absurd hfu (Nat.not_lt_zero _)
        | succ fuel ih56 =>
          intro i hi hfu
          have hB := fB_lt (fun f => decide (wl z y o &&& Wf f = if p0 = 1 then wl z y o else 0)) i
          refine g_iload 56 O dX6_leftNow_56 0 rfl ?_
          refine g_bipush 58 O (v := 6) dX6_leftNow_58 (by decide) ?_
          refine g_icmp_ge 60 O 107 dX6_leftNow_60 (by decide) (fun h60 => ?_) (fun h60 => ?_)
          · -- taken
            have e : i = 6 := by have := ge_of_le (n := 6) (by omega) (by decide) h60; omega
            subst e
            refine g_iload 107 O dX6_leftNow_107 1 rfl ?_
            exact g_iret 109 O dX6_leftNow_109 (by rw [hP0, lef_QL h42]; exact ⟨_, rfl, rfl, so', vl', jg', rfl, hso⟩)
          · -- not taken
            have hlt : i < 6 := lt_of_nge (n := 6) (by omega) h60
            have h26 := p6 i hlt
            refine g_lload_n 63 O dX6_leftNow_63 rfl 2 rfl ?_
            refine g_iload 64 O dX6_leftNow_64 0 rfl ?_
            refine g_callS 66 O (na := 1) (av := [.int (nI i)]) (c_X6_worldsOf l E _ _ (nI i) i rfl hlt) kl_X6_130 ks_X6_worldsOf ki_X6 kc_X6_worldsOf (by decide +kernel) rfl (Nat.le_of_ble_eq_true rfl) (Nat.le_of_ble_eq_true rfl) (fun _ h => h) (fun s => s) (fun _ _ _ _ h => h) rfl (Nat.le_of_ble_eq_true rfl) dX6_leftNow_66 (fun v9 s9 hv9 => ?_)
            obtain ⟨rfl, rfl⟩ := hv9
            refine g_land 69 O dX6_leftNow_69 ?_
            refine g_lstore 70 O (lv' := [(6, .long ((wl z y o) &&& (Wf i))), (5, .int (nI i)), (4, .int (nI (fB (fun f => decide (wl z y o &&& Wf f = if p0 = 1 then wl z y o else 0)) i))), (2, .long (wl z y o)), (0, .ref (a 0)), (1, .int p0)]) dX6_leftNow_70 (by decide) rfl ?_
            refine g_iload 72 O dX6_leftNow_72 2 rfl ?_
            refine g_lload 74 O dX6_leftNow_74 0 rfl ?_
            refine g_iload_n 76 O dX6_leftNow_76 rfl 5 rfl ?_
            refine g_iconst 77 O (v := 1) dX6_leftNow_77 (by decide) ?_
            refine g_icmp_ne 78 O 85 dX6_leftNow_78 (by decide) (fun h78 => ?_) (fun h78 => ?_)
            · -- taken
              refine g_lconst 85 O (v := 0) dX6_leftNow_85 (by decide) ?_
              refine g_lcmp 86 O dX6_leftNow_86 ?_
              refine g_if_ne 87 O 97 dX6_leftNow_87 (by decide) (fun h87 => ?_) (fun h87 => ?_)
              · -- taken
                refine g_iconst 97 O (v := 0) dX6_leftNow_97 (by decide) ?_
                refine g_ior 98 O dX6_leftNow_98 ?_
                refine g_si (nI (fB (fun f => decide (wl z y o &&& Wf f = if p0 = 1 then wl z y o else 0)) (i + 1))) (by rw [fB_f (q := (fun f => decide (wl z y o &&& Wf f = if p0 = 1 then wl z y o else 0))) (decide_eq_false (by rw [if_neg h78]; exact lc1 h87))]; exact Int32.or_zero) ?_
                refine g_istore 99 O (lv' := [(4, .int (nI (fB (fun f => decide (wl z y o &&& Wf f = if p0 = 1 then wl z y o else 0)) (i + 1)))), (6, .long ((wl z y o) &&& (Wf i))), (5, .int (nI i)), (2, .long (wl z y o)), (0, .ref (a 0)), (1, .int p0)]) dX6_leftNow_99 (by decide) rfl ?_
                refine g_iinc 101 O (v := nI (i + 1)) (q := 2) (lv' := [(5, .int (nI (i + 1))), (4, .int (nI (fB (fun f => decide (wl z y o &&& Wf f = if p0 = 1 then wl z y o else 0)) (i + 1)))), (6, .long ((wl z y o) &&& (Wf i))), (2, .long (wl z y o)), (0, .ref (a 0)), (1, .int p0)]) dX6_leftNow_101 rfl (nI_1 i) (by decide) rfl ?_
                refine g_goto 104 O 56 dX6_leftNow_104 (by decide) ?_
                refine g_sub [0, 1, 3, 4, 5] (lv' := [(5, .int (nI (i + 1))), (4, .int (nI (fB (fun f => decide (wl z y o &&& Wf f = if p0 = 1 then wl z y o else 0)) (i + 1)))), (2, .long (wl z y o)), (0, .ref (a 0)), (1, .int p0)]) rfl ?_
                exact ih56 (i + 1) (by omega) (by omega)
              · -- not taken
                refine g_iconst 90 O (v := 1) dX6_leftNow_90 (by decide) ?_
                refine g_iload 91 O dX6_leftNow_91 1 rfl ?_
                refine g_ishl 93 O dX6_leftNow_93 ?_
                refine g_goto 94 O 98 dX6_leftNow_94 (by decide) ?_
                refine g_ior 98 O dX6_leftNow_98 ?_
                refine g_si (nI (fB (fun f => decide (wl z y o &&& Wf f = if p0 = 1 then wl z y o else 0)) (i + 1))) (by rw [fB_t (q := (fun f => decide (wl z y o &&& Wf f = if p0 = 1 then wl z y o else 0))) (decide_eq_true (by rw [if_neg h78]; exact lc0 h87))]; exact orI i hlt _ (by omega) hB) ?_
                refine g_istore 99 O (lv' := [(4, .int (nI (fB (fun f => decide (wl z y o &&& Wf f = if p0 = 1 then wl z y o else 0)) (i + 1)))), (6, .long ((wl z y o) &&& (Wf i))), (5, .int (nI i)), (2, .long (wl z y o)), (0, .ref (a 0)), (1, .int p0)]) dX6_leftNow_99 (by decide) rfl ?_
                refine g_iinc 101 O (v := nI (i + 1)) (q := 2) (lv' := [(5, .int (nI (i + 1))), (4, .int (nI (fB (fun f => decide (wl z y o &&& Wf f = if p0 = 1 then wl z y o else 0)) (i + 1)))), (6, .long ((wl z y o) &&& (Wf i))), (2, .long (wl z y o)), (0, .ref (a 0)), (1, .int p0)]) dX6_leftNow_101 rfl (nI_1 i) (by decide) rfl ?_
                refine g_goto 104 O 56 dX6_leftNow_104 (by decide) ?_
                refine g_sub [0, 1, 3, 4, 5] (lv' := [(5, .int (nI (i + 1))), (4, .int (nI (fB (fun f => decide (wl z y o &&& Wf f = if p0 = 1 then wl z y o else 0)) (i + 1)))), (2, .long (wl z y o)), (0, .ref (a 0)), (1, .int p0)]) rfl ?_
                exact ih56 (i + 1) (by omega) (by omega)
            · -- not taken
              refine g_lload_n 81 O dX6_leftNow_81 rfl 3 rfl ?_
              refine g_goto 82 O 86 dX6_leftNow_82 (by decide) ?_
              refine g_lcmp 86 O dX6_leftNow_86 ?_
              refine g_if_ne 87 O 97 dX6_leftNow_87 (by decide) (fun h87 => ?_) (fun h87 => ?_)
              · -- taken
                refine g_iconst 97 O (v := 0) dX6_leftNow_97 (by decide) ?_
                refine g_ior 98 O dX6_leftNow_98 ?_
                refine g_si (nI (fB (fun f => decide (wl z y o &&& Wf f = if p0 = 1 then wl z y o else 0)) (i + 1))) (by rw [fB_f (q := (fun f => decide (wl z y o &&& Wf f = if p0 = 1 then wl z y o else 0))) (decide_eq_false (by rw [if_pos h78]; exact lc1 h87))]; exact Int32.or_zero) ?_
                refine g_istore 99 O (lv' := [(4, .int (nI (fB (fun f => decide (wl z y o &&& Wf f = if p0 = 1 then wl z y o else 0)) (i + 1)))), (6, .long ((wl z y o) &&& (Wf i))), (5, .int (nI i)), (2, .long (wl z y o)), (0, .ref (a 0)), (1, .int p0)]) dX6_leftNow_99 (by decide) rfl ?_
                refine g_iinc 101 O (v := nI (i + 1)) (q := 2) (lv' := [(5, .int (nI (i + 1))), (4, .int (nI (fB (fun f => decide (wl z y o &&& Wf f = if p0 = 1 then wl z y o else 0)) (i + 1)))), (6, .long ((wl z y o) &&& (Wf i))), (2, .long (wl z y o)), (0, .ref (a 0)), (1, .int p0)]) dX6_leftNow_101 rfl (nI_1 i) (by decide) rfl ?_
                refine g_goto 104 O 56 dX6_leftNow_104 (by decide) ?_
                refine g_sub [0, 1, 3, 4, 5] (lv' := [(5, .int (nI (i + 1))), (4, .int (nI (fB (fun f => decide (wl z y o &&& Wf f = if p0 = 1 then wl z y o else 0)) (i + 1)))), (2, .long (wl z y o)), (0, .ref (a 0)), (1, .int p0)]) rfl ?_
                exact ih56 (i + 1) (by omega) (by omega)
              · -- not taken
                refine g_iconst 90 O (v := 1) dX6_leftNow_90 (by decide) ?_
                refine g_iload 91 O dX6_leftNow_91 1 rfl ?_
                refine g_ishl 93 O dX6_leftNow_93 ?_
                refine g_goto 94 O 98 dX6_leftNow_94 (by decide) ?_
                refine g_ior 98 O dX6_leftNow_98 ?_
                refine g_si (nI (fB (fun f => decide (wl z y o &&& Wf f = if p0 = 1 then wl z y o else 0)) (i + 1))) (by rw [fB_t (q := (fun f => decide (wl z y o &&& Wf f = if p0 = 1 then wl z y o else 0))) (decide_eq_true (by rw [if_pos h78]; exact lc0 h87))]; exact orI i hlt _ (by omega) hB) ?_
                refine g_istore 99 O (lv' := [(4, .int (nI (fB (fun f => decide (wl z y o &&& Wf f = if p0 = 1 then wl z y o else 0)) (i + 1)))), (6, .long ((wl z y o) &&& (Wf i))), (5, .int (nI i)), (2, .long (wl z y o)), (0, .ref (a 0)), (1, .int p0)]) dX6_leftNow_99 (by decide) rfl ?_
                refine g_iinc 101 O (v := nI (i + 1)) (q := 2) (lv' := [(5, .int (nI (i + 1))), (4, .int (nI (fB (fun f => decide (wl z y o &&& Wf f = if p0 = 1 then wl z y o else 0)) (i + 1)))), (6, .long ((wl z y o) &&& (Wf i))), (2, .long (wl z y o)), (0, .ref (a 0)), (1, .int p0)]) dX6_leftNow_101 rfl (nI_1 i) (by decide) rfl ?_
                refine g_goto 104 O 56 dX6_leftNow_104 (by decide) ?_
                refine g_sub [0, 1, 3, 4, 5] (lv' := [(5, .int (nI (i + 1))), (4, .int (nI (fB (fun f => decide (wl z y o &&& Wf f = if p0 = 1 then wl z y o else 0)) (i + 1)))), (2, .long (wl z y o)), (0, .ref (a 0)), (1, .int p0)]) rfl ?_
                exact ih56 (i + 1) (by omega) (by omega)
      exact L56 _ 0 (Nat.zero_le _) (Nat.lt_succ_self _)
    · -- not taken
      refine g_lload_n 45 O dX6_leftNow_45 rfl 0 rfl ?_
      refine g_callS 46 O (na := 1) (av := [.long (wl z y o)]) (c_X6_size l E _ _ (wl z y o)) kl_X6_151 ks_X6_size ki_X6 kc_X6_size (by decide +kernel) rfl (Nat.le_of_ble_eq_true rfl) (Nat.le_of_ble_eq_true rfl) (fun _ h => h) (fun s => s) (fun _ _ _ _ h => h) rfl (Nat.le_of_ble_eq_true rfl) dX6_leftNow_46 (fun v9 s9 hv9 => ?_)
      obtain ⟨rfl, rfl⟩ := hv9
      exact g_iret 49 O dX6_leftNow_49 (by rw [hP0, lefN, if_pos h42]; exact ⟨_, rfl, rfl, so', vl', jg', rfl, hso⟩)

set_option maxRecDepth 100000 in
set_option maxHeartbeats 4000000 in
theorem c_X6_askNow (l : Launch) (E : Ev) (a : Nat → Nat) (mw msd mn mon mhn mrd mtn mad mpn : Int32) (se wo jf ow oj kf ff vf cf tf pb : Nat → Int32) (fat whl nw : Int32) (nwd njn : Nat → Int32) (rd : Int32) (so vl : Nat → Int64) (jg : Nat → Int32) (tko : Nat → Int32) (sdn hh_ : Int64) (ik kw kh kr kt : Int32) (kc ko : Nat → Int32) (y : Sy) (z : Nat → Nat) (hw : mn = nI y.1) (hy : YM wo jf y) (hz : SnW se z) : Ctr l yX6_askNow cX6_askNow 9 (some .int) 4 115 E (wM E a) [.ref (a 0)] (((mw, msd, mn, mon, mhn, mrd, mtn, mad, mpn), (se, wo, jf, ow, oj, kf, ff, vf, cf, tf, pb), (fat, whl, nw, nwd, njn), (rd, so, vl, jg), tko, (sdn, hh_), (ik, kw, kh, kr, kt, kc, ko))) (pI (fun r x => r = nI (askN z y) ∧ ∃ (so' vl' : Nat → Int64) (jg' : Nat → Int32), x = ((mw, msd, mn, mon, mhn, mrd, mtn, mad, mpn), (se, wo, jf, ow, oj, kf, ff, vf, cf, tf, pb), (fat, whl, nw, nwd, njn), (nI (NR y), so', vl', jg'), tko, (sdn, hh_), (ik, kw, kh, kr, kt, kc, ko)) ∧ ∀ r, r < NR y → so' r = TR z y r)) := by
  refine Ctr.of' (by decide +kernel) (Nat.le_of_ble_eq_true rfl) (fun X P0 hP0 O => ?_)
  refine g_sub [0] (lv' := [(0, .ref (a 0))]) rfl ?_
  refine g_aload_n 0 O dX6_askNow_0 rfl 0 rfl ?_
  refine g_aload_n 1 O dX6_askNow_1 rfl 0 rfl ?_
  refine g_get 2 O (v := .int mn) inX6 0 rfl rfl 3 (by decide) kf_X6_97 rfl dX6_askNow_2 ?_
  refine g_iconst 5 O (v := 0) dX6_askNow_5 (by decide) ?_
  refine g_callV 6 O (na := 2) (av := [.int mn, .int 0]) (c_X6_lay l E a mw msd mn mon mhn mrd mtn mad mpn se wo jf ow oj kf ff vf cf tf pb fat whl nw nwd njn rd so vl jg tko sdn hh_ ik kw kh kr kt kc ko mn 0 y z y.1 hw rfl (YM0 hy) hz) kl_X6_106 km_X6_lay kv_X6_lay ki_X6 kc_X6_lay (by decide +kernel) rfl (Nat.le_of_ble_eq_true rfl) (Nat.le_of_ble_eq_true rfl) (fun _ h => h) 0 rfl rfl (fun s => s) (fun _ _ _ _ h => h) rfl (Nat.le_of_ble_eq_true rfl) dX6_askNow_6 (fun v9 s9 hv9 => ?_)
  obtain ⟨rfl, so', vl', jg', rfl, hso⟩ := hv9
  refine g_aload_n 9 O dX6_askNow_9 rfl 0 rfl ?_
  refine g_callV 10 O (na := 0) (av := []) (c_X6_some l E a mw msd mn mon mhn mrd mtn mad mpn se wo jf ow oj kf ff vf cf tf pb fat whl nw nwd njn (nI (NR y)) so' vl' jg' tko sdn hh_ ik kw kh kr kt kc ko y z hy.1 rfl hso) kl_X6_203 km_X6_some kv_X6_some ki_X6 kc_X6_some (by decide +kernel) rfl (Nat.le_of_ble_eq_true rfl) (Nat.le_of_ble_eq_true rfl) (fun _ h => h) 0 rfl rfl (fun s => s) (fun _ _ _ _ h => h) rfl (Nat.le_of_ble_eq_true rfl) dX6_askNow_10 (fun v9 s9 hv9 => ?_)
  obtain ⟨rfl, rfl⟩ := hv9
  refine g_lstore_n 13 O (lv' := [(1, .long (som z y)), (0, .ref (a 0))]) dX6_askNow_13 rfl (by decide) rfl ?_
  refine g_iconst 14 O (v := (-1)) dX6_askNow_14 (by decide) ?_
  refine g_istore_n 15 O (lv' := [(3, .int ((-1))), (1, .long (som z y)), (0, .ref (a 0))]) dX6_askNow_15 rfl (by decide) rfl ?_
  refine g_bipush 16 O (v := 65) dX6_askNow_16 (by decide) ?_
  refine g_istore 18 O (lv' := [(4, .int 65), (3, .int ((-1))), (1, .long (som z y)), (0, .ref (a 0))]) dX6_askNow_18 (by decide) rfl ?_
  refine g_iconst 20 O (v := 0) dX6_askNow_20 (by decide) ?_
  refine g_istore 21 O (lv' := [(5, .int 0), (4, .int 65), (3, .int ((-1))), (1, .long (som z y)), (0, .ref (a 0))]) dX6_askNow_21 (by decide) rfl ?_
  refine g_sub [0, 1, 2, 3, 4] (lv' := [(5, .int 0), (4, .int 65), (3, .int ((-1))), (1, .long (som z y)), (0, .ref (a 0))]) rfl ?_
  have L23 : ∀ (fuel : Nat) (i : Nat) (hi : i ≤ 6), 6 - i < fuel → G l E (wM E a) P0 X 9 (((mw, msd, mn, mon, mhn, mrd, mtn, mad, mpn), (se, wo, jf, ow, oj, kf, ff, vf, cf, tf, pb), (fat, whl, nw, nwd, njn), (nI (NR y), so', vl', jg'), tko, (sdn, hh_), (ik, kw, kh, kr, kt, kc, ko))) 23 [(5, .int (nI i)), (4, .int (nI (aL (fun f => lw (som z y) f) i))), (3, .int (aB (fun f => lw (som z y) f) i)), (1, .long (som z y)), (0, .ref (a 0))] [] := by
    intro fuel
    induction fuel with
    | zero => intro i hi hfu; exact absurd hfu (Nat.not_lt_zero _)
    | succ fuel ih23 =>
      intro i hi hfu
      have haL := aL_le (f := (fun f => lw (som z y) f)) (fun k => lw_le (som z y) k) i
      have hl64 := lw_le (som z y) i
      refine g_iload 23 O dX6_askNow_23 0 rfl ?_
      refine g_bipush 25 O (v := 6) dX6_askNow_25 (by decide) ?_
      refine g_icmp_ge 27 O 103 dX6_askNow_27 (by decide) (fun h27 => ?_) (fun h27 => ?_)
      · -- taken
        have e : i = 6 := by have := ge_of_le (n := 6) (by omega) (by decide) h27; omega
        subst e
        refine g_iload_n 103 O dX6_askNow_103 rfl 2 rfl ?_
        exact g_iret 104 O dX6_askNow_104 (by rw [hP0]; exact ⟨_, rfl, rfl, so', vl', jg', rfl, hso⟩)
      · -- not taken
        have hlt : i < 6 := lt_of_nge (n := 6) (by omega) h27
        refine g_lload_n 30 O dX6_askNow_30 rfl 3 rfl ?_
        refine g_iload 31 O dX6_askNow_31 0 rfl ?_
        refine g_callS 33 O (na := 1) (av := [.int (nI i)]) (c_X6_worldsOf l E _ _ (nI i) i rfl hlt) kl_X6_130 ks_X6_worldsOf ki_X6 kc_X6_worldsOf (by decide +kernel) rfl (Nat.le_of_ble_eq_true rfl) (Nat.le_of_ble_eq_true rfl) (fun _ h => h) (fun s => s) (fun _ _ _ _ h => h) rfl (Nat.le_of_ble_eq_true rfl) dX6_askNow_33 (fun v9 s9 hv9 => ?_)
        obtain ⟨rfl, rfl⟩ := hv9
        refine g_land 36 O dX6_askNow_36 ?_
        refine g_callS 37 O (na := 1) (av := [.long ((som z y) &&& (Wf i))]) (c_X6_size l E _ _ ((som z y) &&& (Wf i))) kl_X6_151 ks_X6_size ki_X6 kc_X6_size (by decide +kernel) rfl (Nat.le_of_ble_eq_true rfl) (Nat.le_of_ble_eq_true rfl) (fun _ h => h) (fun s => s) (fun _ _ _ _ h => h) rfl (Nat.le_of_ble_eq_true rfl) dX6_askNow_37 (fun v9 s9 hv9 => ?_)
        obtain ⟨rfl, rfl⟩ := hv9
        refine g_istore 40 O (lv' := [(6, .int (nI (pcn ((som z y) &&& (Wf i))))), (5, .int (nI i)), (4, .int (nI (aL (fun f => lw (som z y) f) i))), (3, .int (aB (fun f => lw (som z y) f) i)), (1, .long (som z y)), (0, .ref (a 0))]) dX6_askNow_40 (by decide) rfl ?_
        refine g_lload_n 42 O dX6_askNow_42 rfl 4 rfl ?_
        refine g_callS 43 O (na := 1) (av := [.long (som z y)]) (c_X6_size l E _ _ (som z y)) kl_X6_151 ks_X6_size ki_X6 kc_X6_size (by decide +kernel) rfl (Nat.le_of_ble_eq_true rfl) (Nat.le_of_ble_eq_true rfl) (fun _ h => h) (fun s => s) (fun _ _ _ _ h => h) rfl (Nat.le_of_ble_eq_true rfl) dX6_askNow_43 (fun v9 s9 hv9 => ?_)
        obtain ⟨rfl, rfl⟩ := hv9
        refine g_iload 46 O dX6_askNow_46 0 rfl ?_
        refine g_isub 48 O dX6_askNow_48 ?_
        refine g_si (nI (pcn (som z y &&& (Wf i ^^^ (-1))))) (pcn_sub _ _) ?_
        refine g_istore 49 O (lv' := [(7, .int (nI (pcn (som z y &&& (Wf i ^^^ (-1)))))), (6, .int (nI (pcn ((som z y) &&& (Wf i))))), (5, .int (nI i)), (4, .int (nI (aL (fun f => lw (som z y) f) i))), (3, .int (aB (fun f => lw (som z y) f) i)), (1, .long (som z y)), (0, .ref (a 0))]) dX6_askNow_49 (by decide) rfl ?_
        refine g_iload 51 O dX6_askNow_51 1 rfl ?_
        refine g_iload 53 O dX6_askNow_53 0 rfl ?_
        refine g_icmp_le 55 O 63 dX6_askNow_55 (by decide) (fun h55 => ?_) (fun h55 => ?_)
        · -- taken
          refine g_iload 63 O dX6_askNow_63 0 rfl ?_
          have hpa := pcn_le (som z y &&& Wf i)
          have hpb := pcn_le (som z y &&& (Wf i ^^^ (-1)))
          refine g_si (nI (lw (som z y) i)) (by rw [lw_max, Nat.max_eq_right (ge_of_le (by omega) (by omega) h55)]) ?_
          refine g_istore 65 O (lv' := [(8, .int (nI (lw (som z y) i))), (7, .int (nI (pcn (som z y &&& (Wf i ^^^ (-1)))))), (6, .int (nI (pcn ((som z y) &&& (Wf i))))), (5, .int (nI i)), (4, .int (nI (aL (fun f => lw (som z y) f) i))), (3, .int (aB (fun f => lw (som z y) f) i)), (1, .long (som z y)), (0, .ref (a 0))]) dX6_askNow_65 (by decide) rfl ?_
          refine g_iload 67 O dX6_askNow_67 0 rfl ?_
          refine g_iload 69 O dX6_askNow_69 4 rfl ?_
          refine g_icmp_ge 71 O 79 dX6_askNow_71 (by decide) (fun h71 => ?_) (fun h71 => ?_)
          · -- taken
            refine g_iload_n 79 O dX6_askNow_79 rfl 5 rfl ?_
            refine g_si (aB (fun f => lw (som z y) f) (i + 1)) (aB_f (f := (fun f => lw (som z y) f)) (lw_le (som z y) 0) (Nat.not_lt.mpr (ge_of_le (by omega) (by omega) h71))) ?_
            refine g_istore_n 80 O (lv' := [(3, .int (aB (fun f => lw (som z y) f) (i + 1))), (8, .int (nI (lw (som z y) i))), (7, .int (nI (pcn (som z y &&& (Wf i ^^^ (-1)))))), (6, .int (nI (pcn ((som z y) &&& (Wf i))))), (5, .int (nI i)), (4, .int (nI (aL (fun f => lw (som z y) f) i))), (1, .long (som z y)), (0, .ref (a 0))]) dX6_askNow_80 rfl (by decide) rfl ?_
            refine g_iload 81 O dX6_askNow_81 1 rfl ?_
            refine g_iload 83 O dX6_askNow_83 5 rfl ?_
            refine g_icmp_ge 85 O 93 dX6_askNow_85 (by decide) (fun h85 => ?_) (fun h85 => False.elim (h85 h71))
            refine g_iload 93 O dX6_askNow_93 5 rfl ?_
            refine g_si (nI (aL (fun f => lw (som z y) f) (i + 1))) (congrArg nI (aL_f (f := (fun f => lw (som z y) f)) (lw_le (som z y) 0) (Nat.not_lt.mpr (ge_of_le (by omega) (by omega) h71)))) ?_
            refine g_istore 95 O (lv' := [(4, .int (nI (aL (fun f => lw (som z y) f) (i + 1)))), (3, .int (aB (fun f => lw (som z y) f) (i + 1))), (8, .int (nI (lw (som z y) i))), (7, .int (nI (pcn (som z y &&& (Wf i ^^^ (-1)))))), (6, .int (nI (pcn ((som z y) &&& (Wf i))))), (5, .int (nI i)), (1, .long (som z y)), (0, .ref (a 0))]) dX6_askNow_95 (by decide) rfl ?_
            refine g_iinc 97 O (v := nI (i + 1)) (q := 5) (lv' := [(5, .int (nI (i + 1))), (4, .int (nI (aL (fun f => lw (som z y) f) (i + 1)))), (3, .int (aB (fun f => lw (som z y) f) (i + 1))), (8, .int (nI (lw (som z y) i))), (7, .int (nI (pcn (som z y &&& (Wf i ^^^ (-1)))))), (6, .int (nI (pcn ((som z y) &&& (Wf i))))), (1, .long (som z y)), (0, .ref (a 0))]) dX6_askNow_97 rfl (nI_1 i) (by decide) rfl ?_
            refine g_goto 100 O 23 dX6_askNow_100 (by decide) ?_
            refine g_sub [0, 1, 2, 6, 7] (lv' := [(5, .int (nI (i + 1))), (4, .int (nI (aL (fun f => lw (som z y) f) (i + 1)))), (3, .int (aB (fun f => lw (som z y) f) (i + 1))), (1, .long (som z y)), (0, .ref (a 0))]) rfl ?_
            exact ih23 (i + 1) (by omega) (by omega)
          · -- not taken
            refine g_iload 74 O dX6_askNow_74 3 rfl ?_
            refine g_goto 76 O 80 dX6_askNow_76 (by decide) ?_
            refine g_si (aB (fun f => lw (som z y) f) (i + 1)) (aB_t (f := (fun f => lw (som z y) f)) (lw_le (som z y) 0) (lt_of_nge (by omega) h71)) ?_
            refine g_istore_n 80 O (lv' := [(3, .int (aB (fun f => lw (som z y) f) (i + 1))), (8, .int (nI (lw (som z y) i))), (7, .int (nI (pcn (som z y &&& (Wf i ^^^ (-1)))))), (6, .int (nI (pcn ((som z y) &&& (Wf i))))), (5, .int (nI i)), (4, .int (nI (aL (fun f => lw (som z y) f) i))), (1, .long (som z y)), (0, .ref (a 0))]) dX6_askNow_80 rfl (by decide) rfl ?_
            refine g_iload 81 O dX6_askNow_81 1 rfl ?_
            refine g_iload 83 O dX6_askNow_83 5 rfl ?_
            refine g_icmp_ge 85 O 93 dX6_askNow_85 (by decide) (fun h85 => False.elim (h71 h85)) (fun h85 => ?_)
            refine g_iload 88 O dX6_askNow_88 1 rfl ?_
            refine g_goto 90 O 95 dX6_askNow_90 (by decide) ?_
            refine g_si (nI (aL (fun f => lw (som z y) f) (i + 1))) (congrArg nI (aL_t (f := (fun f => lw (som z y) f)) (lw_le (som z y) 0) (lt_of_nge (by omega) h71))) ?_
            refine g_istore 95 O (lv' := [(4, .int (nI (aL (fun f => lw (som z y) f) (i + 1)))), (3, .int (aB (fun f => lw (som z y) f) (i + 1))), (8, .int (nI (lw (som z y) i))), (7, .int (nI (pcn (som z y &&& (Wf i ^^^ (-1)))))), (6, .int (nI (pcn ((som z y) &&& (Wf i))))), (5, .int (nI i)), (1, .long (som z y)), (0, .ref (a 0))]) dX6_askNow_95 (by decide) rfl ?_
            refine g_iinc 97 O (v := nI (i + 1)) (q := 5) (lv' := [(5, .int (nI (i + 1))), (4, .int (nI (aL (fun f => lw (som z y) f) (i + 1)))), (3, .int (aB (fun f => lw (som z y) f) (i + 1))), (8, .int (nI (lw (som z y) i))), (7, .int (nI (pcn (som z y &&& (Wf i ^^^ (-1)))))), (6, .int (nI (pcn ((som z y) &&& (Wf i))))), (1, .long (som z y)), (0, .ref (a 0))]) dX6_askNow_97 rfl (nI_1 i) (by decide) rfl ?_
            refine g_goto 100 O 23 dX6_askNow_100 (by decide) ?_
            refine g_sub [0, 1, 2, 6, 7] (lv' := [(5, .int (nI (i + 1))), (4, .int (nI (aL (fun f => lw (som z y) f) (i + 1)))), (3, .int (aB (fun f => lw (som z y) f) (i + 1))), (1, .long (som z y)), (0, .ref (a 0))]) rfl ?_
            exact ih23 (i + 1) (by omega) (by omega)
        · -- not taken
          refine g_iload 58 O dX6_askNow_58 1 rfl ?_
          refine g_goto 60 O 65 dX6_askNow_60 (by decide) ?_
          have hpa := pcn_le (som z y &&& Wf i)
          have hpb := pcn_le (som z y &&& (Wf i ^^^ (-1)))
          refine g_si (nI (lw (som z y) i)) (by rw [lw_max, Nat.max_eq_left (Nat.le_of_lt (lt_of_nge (by omega) h55))]) ?_
          refine g_istore 65 O (lv' := [(8, .int (nI (lw (som z y) i))), (7, .int (nI (pcn (som z y &&& (Wf i ^^^ (-1)))))), (6, .int (nI (pcn ((som z y) &&& (Wf i))))), (5, .int (nI i)), (4, .int (nI (aL (fun f => lw (som z y) f) i))), (3, .int (aB (fun f => lw (som z y) f) i)), (1, .long (som z y)), (0, .ref (a 0))]) dX6_askNow_65 (by decide) rfl ?_
          refine g_iload 67 O dX6_askNow_67 0 rfl ?_
          refine g_iload 69 O dX6_askNow_69 4 rfl ?_
          refine g_icmp_ge 71 O 79 dX6_askNow_71 (by decide) (fun h71 => ?_) (fun h71 => ?_)
          · -- taken
            refine g_iload_n 79 O dX6_askNow_79 rfl 5 rfl ?_
            refine g_si (aB (fun f => lw (som z y) f) (i + 1)) (aB_f (f := (fun f => lw (som z y) f)) (lw_le (som z y) 0) (Nat.not_lt.mpr (ge_of_le (by omega) (by omega) h71))) ?_
            refine g_istore_n 80 O (lv' := [(3, .int (aB (fun f => lw (som z y) f) (i + 1))), (8, .int (nI (lw (som z y) i))), (7, .int (nI (pcn (som z y &&& (Wf i ^^^ (-1)))))), (6, .int (nI (pcn ((som z y) &&& (Wf i))))), (5, .int (nI i)), (4, .int (nI (aL (fun f => lw (som z y) f) i))), (1, .long (som z y)), (0, .ref (a 0))]) dX6_askNow_80 rfl (by decide) rfl ?_
            refine g_iload 81 O dX6_askNow_81 1 rfl ?_
            refine g_iload 83 O dX6_askNow_83 5 rfl ?_
            refine g_icmp_ge 85 O 93 dX6_askNow_85 (by decide) (fun h85 => ?_) (fun h85 => False.elim (h85 h71))
            refine g_iload 93 O dX6_askNow_93 5 rfl ?_
            refine g_si (nI (aL (fun f => lw (som z y) f) (i + 1))) (congrArg nI (aL_f (f := (fun f => lw (som z y) f)) (lw_le (som z y) 0) (Nat.not_lt.mpr (ge_of_le (by omega) (by omega) h71)))) ?_
            refine g_istore 95 O (lv' := [(4, .int (nI (aL (fun f => lw (som z y) f) (i + 1)))), (3, .int (aB (fun f => lw (som z y) f) (i + 1))), (8, .int (nI (lw (som z y) i))), (7, .int (nI (pcn (som z y &&& (Wf i ^^^ (-1)))))), (6, .int (nI (pcn ((som z y) &&& (Wf i))))), (5, .int (nI i)), (1, .long (som z y)), (0, .ref (a 0))]) dX6_askNow_95 (by decide) rfl ?_
            refine g_iinc 97 O (v := nI (i + 1)) (q := 5) (lv' := [(5, .int (nI (i + 1))), (4, .int (nI (aL (fun f => lw (som z y) f) (i + 1)))), (3, .int (aB (fun f => lw (som z y) f) (i + 1))), (8, .int (nI (lw (som z y) i))), (7, .int (nI (pcn (som z y &&& (Wf i ^^^ (-1)))))), (6, .int (nI (pcn ((som z y) &&& (Wf i))))), (1, .long (som z y)), (0, .ref (a 0))]) dX6_askNow_97 rfl (nI_1 i) (by decide) rfl ?_
            refine g_goto 100 O 23 dX6_askNow_100 (by decide) ?_
            refine g_sub [0, 1, 2, 6, 7] (lv' := [(5, .int (nI (i + 1))), (4, .int (nI (aL (fun f => lw (som z y) f) (i + 1)))), (3, .int (aB (fun f => lw (som z y) f) (i + 1))), (1, .long (som z y)), (0, .ref (a 0))]) rfl ?_
            exact ih23 (i + 1) (by omega) (by omega)
          · -- not taken
            refine g_iload 74 O dX6_askNow_74 3 rfl ?_
            refine g_goto 76 O 80 dX6_askNow_76 (by decide) ?_
            refine g_si (aB (fun f => lw (som z y) f) (i + 1)) (aB_t (f := (fun f => lw (som z y) f)) (lw_le (som z y) 0) (lt_of_nge (by omega) h71)) ?_
            refine g_istore_n 80 O (lv' := [(3, .int (aB (fun f => lw (som z y) f) (i + 1))), (8, .int (nI (lw (som z y) i))), (7, .int (nI (pcn (som z y &&& (Wf i ^^^ (-1)))))), (6, .int (nI (pcn ((som z y) &&& (Wf i))))), (5, .int (nI i)), (4, .int (nI (aL (fun f => lw (som z y) f) i))), (1, .long (som z y)), (0, .ref (a 0))]) dX6_askNow_80 rfl (by decide) rfl ?_
            refine g_iload 81 O dX6_askNow_81 1 rfl ?_
            refine g_iload 83 O dX6_askNow_83 5 rfl ?_
            refine g_icmp_ge 85 O 93 dX6_askNow_85 (by decide) (fun h85 => False.elim (h71 h85)) (fun h85 => ?_)
            refine g_iload 88 O dX6_askNow_88 1 rfl ?_
            refine g_goto 90 O 95 dX6_askNow_90 (by decide) ?_
            refine g_si (nI (aL (fun f => lw (som z y) f) (i + 1))) (congrArg nI (aL_t (f := (fun f => lw (som z y) f)) (lw_le (som z y) 0) (lt_of_nge (by omega) h71))) ?_
            refine g_istore 95 O (lv' := [(4, .int (nI (aL (fun f => lw (som z y) f) (i + 1)))), (3, .int (aB (fun f => lw (som z y) f) (i + 1))), (8, .int (nI (lw (som z y) i))), (7, .int (nI (pcn (som z y &&& (Wf i ^^^ (-1)))))), (6, .int (nI (pcn ((som z y) &&& (Wf i))))), (5, .int (nI i)), (1, .long (som z y)), (0, .ref (a 0))]) dX6_askNow_95 (by decide) rfl ?_
            refine g_iinc 97 O (v := nI (i + 1)) (q := 5) (lv' := [(5, .int (nI (i + 1))), (4, .int (nI (aL (fun f => lw (som z y) f) (i + 1)))), (3, .int (aB (fun f => lw (som z y) f) (i + 1))), (8, .int (nI (lw (som z y) i))), (7, .int (nI (pcn (som z y &&& (Wf i ^^^ (-1)))))), (6, .int (nI (pcn ((som z y) &&& (Wf i))))), (1, .long (som z y)), (0, .ref (a 0))]) dX6_askNow_97 rfl (nI_1 i) (by decide) rfl ?_
            refine g_goto 100 O 23 dX6_askNow_100 (by decide) ?_
            refine g_sub [0, 1, 2, 6, 7] (lv' := [(5, .int (nI (i + 1))), (4, .int (nI (aL (fun f => lw (som z y) f) (i + 1)))), (3, .int (aB (fun f => lw (som z y) f) (i + 1))), (1, .long (som z y)), (0, .ref (a 0))]) rfl ?_
            exact ih23 (i + 1) (by omega) (by omega)
  exact L23 _ 0 (Nat.zero_le _) (Nat.lt_succ_self _)

set_option maxRecDepth 100000 in
set_option maxHeartbeats 4000000 in
theorem c_X6_draw (l : Launch) (E : Ev) (a : Nat → Nat) (mw msd mn mon mhn mrd mtn mad mpn : Int32) (se wo jf ow oj kf ff vf cf tf pb : Nat → Int32) (fat whl nw : Int32) (nwd njn : Nat → Int32) (rd : Int32) (so vl : Nat → Int64) (jg : Nat → Int32) (tko : Nat → Int32) (sdn hh_ : Int64) (ik kw kh kr kt : Int32) (kc ko : Nat → Int32) (p0 : Int32) (s d : Nat) (hs : s < 2147483648) (hsd : sdn = lN s) (hp : p0 = nI d) (h0 : 0 < d) (hd : d < 2147483648) : Ctr l yX6_draw cX6_draw 2 (some .int) 0 0 E (wM E a) [.ref (a 0), .int p0] (((mw, msd, mn, mon, mhn, mrd, mtn, mad, mpn), (se, wo, jf, ow, oj, kf, ff, vf, cf, tf, pb), (fat, whl, nw, nwd, njn), (rd, so, vl, jg), tko, (sdn, hh_), (ik, kw, kh, kr, kt, kc, ko))) (pI (fun r x => r = nI (dr (nx s) d) ∧ x = ((mw, msd, mn, mon, mhn, mrd, mtn, mad, mpn), (se, wo, jf, ow, oj, kf, ff, vf, cf, tf, pb), (fat, whl, nw, nwd, njn), (rd, so, vl, jg), tko, (lN (nx s), hh_), (ik, kw, kh, kr, kt, kc, ko)))) := by
  refine Ctr.of' (by decide +kernel) (Nat.le_of_ble_eq_true rfl) (fun X P0 hP0 O => ?_)
  refine g_sub [0, 1] (lv' := [(0, .ref (a 0)), (1, .int p0)]) rfl ?_
  have hnx : nx s < 2147483648 := Nat.mod_lt _ (by decide)
  refine g_aload_n 0 O dX6_draw_0 rfl 0 rfl ?_
  refine g_ldc2 1 O (v := 1103515245) dX6_draw_1 kk_X6_232 ?_
  refine g_aload_n 4 O dX6_draw_4 rfl 0 rfl ?_
  refine g_get 5 O (v := .long sdn) inX6 0 rfl rfl 30 (by decide) kf_X6_234 rfl dX6_draw_5 ?_
  refine g_lmul 8 O dX6_draw_8 ?_
  refine g_ldc2 9 O (v := 12345) dX6_draw_9 kk_X6_238 ?_
  refine g_ladd 12 O dX6_draw_12 ?_
  refine g_ldc2 13 O (v := 2147483647) dX6_draw_13 kk_X6_240 ?_
  refine g_land 16 O dX6_draw_16 ?_
  refine g_sl (lN (nx s)) (by rw [hsd, show (1103515245 : Int64) = lN 1103515245 from rfl, show (12345 : Int64) = lN 12345 from rfl, show (2147483647 : Int64) = lN (2 ^ 31 - 1) from rfl, lN_mul, lN_add, wb_mask (by omega) (by decide)]; rfl) ?_
  refine g_put 17 O inX6 tyX6_ok nmX6 (((mw, msd, mn, mon, mhn, mrd, mtn, mad, mpn), (se, wo, jf, ow, oj, kf, ff, vf, cf, tf, pb), (fat, whl, nw, nwd, njn), (rd, so, vl, jg), tko, (lN (nx s), hh_), (ik, kw, kh, kr, kt, kc, ko))) 0 rfl rfl 30 (by decide) kf_X6_234 rfl (rfl) (rfl) (Nat.le_of_ble_eq_true rfl) rfl dX6_draw_17 ?_
  refine g_aload_n 20 O dX6_draw_20 rfl 0 rfl ?_
  refine g_get 21 O (v := .long (lN (nx s))) inX6 0 rfl rfl 30 (by decide) kf_X6_234 rfl dX6_draw_21 ?_
  refine g_ldc2 24 O (v := 65536) dX6_draw_24 kk_X6_242 ?_
  refine g_ldiv 27 O dX6_draw_27 (by decide) ?_
  refine g_iload_n 28 O dX6_draw_28 rfl 1 rfl ?_
  refine g_i2l 29 O dX6_draw_29 ?_
  refine g_sl (lN d) (by rw [hp, nI_l hd]) ?_
  refine g_lrem 30 O dX6_draw_30 (fun e => absurd ((pk_lEQ (b := 0) (by omega) (by decide)).mp e) (by omega)) ?_
  refine g_sl (lN (dr (nx s) d)) (by rw [show (65536 : Int64) = lN 65536 from rfl, pk_lDiv (by omega) (by decide) (by decide), pk_lRem (by omega) h0 (by omega)]; rfl) ?_
  refine g_l2i 31 O dX6_draw_31 ?_
  refine g_si (nI (dr (nx s) d)) (lN_i _) ?_
  exact g_iret 32 O dX6_draw_32 (by rw [hP0]; exact ⟨_, rfl, rfl, rfl⟩)

set_option maxRecDepth 100000 in
set_option maxHeartbeats 4000000 in
theorem c_X6_timesNow (l : Launch) (E : Ev) (a : Nat → Nat) (mw msd mn mon mhn mrd mtn mad mpn : Int32) (se wo jf ow oj kf ff vf cf tf pb : Nat → Int32) (fat whl nw : Int32) (nwd njn : Nat → Int32) (rd : Int32) (so vl : Nat → Int64) (jg : Nat → Int32) (tko : Nat → Int32) (sdn hh_ : Int64) (ik kw kh kr kt : Int32) (kc ko : Nat → Int32) (p0 p1 p2 : Int32) (y : Sy) (z : Nat → Nat) (hw : mn = nI y.1) (hy : YM wo jf y) (hz : SnW se z) (hr : Hr) (hh : HrW (mhn, kf, ff, vf, cf) hr) (hy0 : ¬ y.1 = 0) (wn : Nat) (hwn : mw = nI wn) (hwn0 : wn < 64) (tn s : Nat) (hp0 : p0 = nI tn) (htn : tn ≤ 60) (hp1 : p1 = nI s) (hs : s < 2147483648) : Ctr l yX6_timesNow cX6_timesNow 9 (some .int) 4 115 E (wM E a) [.ref (a 0), .int p0, .int p1, .int p2] (((mw, msd, mn, mon, mhn, mrd, mtn, mad, mpn), (se, wo, jf, ow, oj, kf, ff, vf, cf, tf, pb), (fat, whl, nw, nwd, njn), (rd, so, vl, jg), tko, (sdn, hh_), (ik, kw, kh, kr, kt, kc, ko))) (pI (fun r x => r = (if p2 = 0 then nI (tm z y hr wn s tn).1 else if p2 = 1 then nI (tm z y hr wn s tn).2.2 else nI (tm z y hr wn s tn).2.1) ∧ ∃ (so' vl' : Nat → Int64) (jg' tko' : Nat → Int32) (sd' : Int64), x = ((mw, msd, mn, mon, mhn, mrd, mtn, mad, mpn), (se, wo, jf, ow, oj, kf, ff, vf, cf, tf, pb), (fat, whl, nw, nwd, njn), (nI (NR y), so', vl', jg'), tko', (sd', hh_), (ik, kw, kh, kr, kt, kc, ko)))) := by
  refine Ctr.of' (by decide +kernel) (Nat.le_of_ble_eq_true rfl) (fun X P0 hP0 O => ?_)
  refine g_sub [0, 1, 2, 3] (lv' := [(0, .ref (a 0)), (1, .int p0), (2, .int p1), (3, .int p2)]) rfl ?_
  refine g_aload_n 0 O dX6_timesNow_0 rfl 0 rfl ?_
  refine g_aload_n 1 O dX6_timesNow_1 rfl 0 rfl ?_
  refine g_get 2 O (v := .int mn) inX6 0 rfl rfl 3 (by decide) kf_X6_97 rfl dX6_timesNow_2 ?_
  refine g_iconst 5 O (v := 0) dX6_timesNow_5 (by decide) ?_
  refine g_callV 6 O (na := 2) (av := [.int mn, .int 0]) (c_X6_lay l E a mw msd mn mon mhn mrd mtn mad mpn se wo jf ow oj kf ff vf cf tf pb fat whl nw nwd njn rd so vl jg tko sdn hh_ ik kw kh kr kt kc ko mn 0 y z y.1 hw rfl (YM0 hy) hz) kl_X6_106 km_X6_lay kv_X6_lay ki_X6 kc_X6_lay (by decide +kernel) rfl (Nat.le_of_ble_eq_true rfl) (Nat.le_of_ble_eq_true rfl) (fun _ h => h) 0 rfl rfl (fun s => s) (fun _ _ _ _ h => h) rfl (Nat.le_of_ble_eq_true rfl) dX6_timesNow_6 (fun v9 s9 hv9 => ?_)
  obtain ⟨rfl, so', vl', jg', rfl, hso⟩ := hv9
  refine g_aload_n 9 O dX6_timesNow_9 rfl 0 rfl ?_
  refine g_callV 10 O (na := 0) (av := []) (c_X6_layTakes l E a mw msd mn mon mhn mrd mtn mad mpn se wo jf ow oj kf ff vf cf tf pb fat whl nw nwd njn (nI (NR y)) so' vl' jg' tko sdn hh_ ik kw kh kr kt kc ko y z hy.1 rfl hso hr hh) kl_X6_200 km_X6_layTakes kv_X6_layTakes ki_X6 kc_X6_layTakes (by decide +kernel) rfl (Nat.le_of_ble_eq_true rfl) (Nat.le_of_ble_eq_true rfl) (fun _ h => h) 0 rfl rfl (fun s => s) (fun _ _ _ _ h => h) rfl (Nat.le_of_ble_eq_true rfl) dX6_timesNow_10 (fun v9 s9 hv9 => ?_)
  obtain ⟨rfl, tko', rfl, htk⟩ := hv9
  refine g_aload_n 13 O dX6_timesNow_13 rfl 0 rfl ?_
  refine g_callV 14 O (na := 0) (av := []) (c_X6_some l E a mw msd mn mon mhn mrd mtn mad mpn se wo jf ow oj kf ff vf cf tf pb fat whl nw nwd njn (nI (NR y)) so' vl' jg' tko' sdn hh_ ik kw kh kr kt kc ko y z hy.1 rfl hso) kl_X6_203 km_X6_some kv_X6_some ki_X6 kc_X6_some (by decide +kernel) rfl (Nat.le_of_ble_eq_true rfl) (Nat.le_of_ble_eq_true rfl) (fun _ h => h) 0 rfl rfl (fun s => s) (fun _ _ _ _ h => h) rfl (Nat.le_of_ble_eq_true rfl) dX6_timesNow_14 (fun v9 s9 hv9 => ?_)
  obtain ⟨rfl, rfl⟩ := hv9
  refine g_lstore 17 O (lv' := [(4, .long (som z y)), (0, .ref (a 0)), (1, .int p0), (2, .int p1), (3, .int p2)]) dX6_timesNow_17 (by decide) rfl ?_
  refine g_aload_n 19 O dX6_timesNow_19 rfl 1 rfl ?_
  refine g_iload_n 20 O dX6_timesNow_20 rfl 3 rfl ?_
  refine g_i2l 21 O dX6_timesNow_21 ?_
  refine g_sl (lN s) (by rw [hp1, nI_l hs]) ?_
  refine g_put 22 O inX6 tyX6_ok nmX6 (((mw, msd, mn, mon, mhn, mrd, mtn, mad, mpn), (se, wo, jf, ow, oj, kf, ff, vf, cf, tf, pb), (fat, whl, nw, nwd, njn), (nI (NR y), so', vl', jg'), tko', (lN s, hh_), (ik, kw, kh, kr, kt, kc, ko))) 0 rfl rfl 30 (by decide) kf_X6_234 rfl (rfl) (rfl) (Nat.le_of_ble_eq_true rfl) rfl dX6_timesNow_22 ?_
  refine g_aload_n 25 O dX6_timesNow_25 rfl 1 rfl ?_
  refine g_get 26 O (v := .int mw) inX6 0 rfl rfl 0 (by decide) kf_X6_162 rfl dX6_timesNow_26 ?_
  refine g_si (nI (tm z y hr wn s 0).1) (hwn) ?_
  refine g_istore 29 O (lv' := [(6, .int (nI (tm z y hr wn s 0).1)), (4, .long (som z y)), (0, .ref (a 0)), (1, .int p0), (2, .int p1), (3, .int p2)]) dX6_timesNow_29 (by decide) rfl ?_
  refine g_iconst 31 O (v := 0) dX6_timesNow_31 (by decide) ?_
  refine g_istore 32 O (lv' := [(7, .int 0), (6, .int (nI (tm z y hr wn s 0).1)), (4, .long (som z y)), (0, .ref (a 0)), (1, .int p0), (2, .int p1), (3, .int p2)]) dX6_timesNow_32 (by decide) rfl ?_
  refine g_iconst 34 O (v := 0) dX6_timesNow_34 (by decide) ?_
  refine g_istore 35 O (lv' := [(8, .int 0), (7, .int 0), (6, .int (nI (tm z y hr wn s 0).1)), (4, .long (som z y)), (0, .ref (a 0)), (1, .int p0), (2, .int p1), (3, .int p2)]) dX6_timesNow_35 (by decide) rfl ?_
  refine g_sub [0, 1, 2, 3, 4, 5, 6, 7] (lv' := [(8, .int 0), (7, .int 0), (6, .int (nI (tm z y hr wn s 0).1)), (4, .long (som z y)), (0, .ref (a 0)), (1, .int p0), (2, .int p1), (3, .int p2)]) rfl ?_
  have L37 : ∀ (fuel : Nat) (k : Nat) (hk : k ≤ tn), tn - k < fuel → G l E (wM E a) P0 X 9 (((mw, msd, mn, mon, mhn, mrd, mtn, mad, mpn), (se, wo, jf, ow, oj, kf, ff, vf, cf, tf, pb), (fat, whl, nw, nwd, njn), (nI (NR y), so', vl', jg'), tko', (lN (tm z y hr wn s k).2.1, hh_), (ik, kw, kh, kr, kt, kc, ko))) 37 [(8, .int (nI k)), (7, .int (nI (tm z y hr wn s k).2.2)), (6, .int (nI (tm z y hr wn s k).1)), (4, .long (som z y)), (0, .ref (a 0)), (1, .int p0), (2, .int p1), (3, .int p2)] [] := by
    intro fuel
    induction fuel with
    | zero => intro k hk hfu; exact absurd hfu (Nat.not_lt_zero _)
    | succ fuel ih37 =>
      intro k hk hfu
      have ht := tm_ok (z := z) (y := y) hh hwn0 hs k
      have ht1 := tm_ok (z := z) (y := y) hh hwn0 hs (k + 1)
      have hn1 : nx (tm z y hr wn s k).2.1 < 2147483648 := Nat.mod_lt _ (by decide)
      refine g_iload 37 O dX6_timesNow_37 0 rfl ?_
      refine g_iload_n 39 O dX6_timesNow_39 rfl 5 rfl ?_
      refine g_icmp_ge 40 O 99 dX6_timesNow_40 (by decide) (fun h40 => ?_) (fun h40 => ?_)
      · -- taken
        have e : k = tn := by rw [hp0] at h40; have := ge_of_le (by omega) (by omega) h40; omega
        refine g_iload_n 99 O dX6_timesNow_99 rfl 7 rfl ?_
        refine g_if_ne 100 O 108 dX6_timesNow_100 (by decide) (fun h100 => ?_) (fun h100 => ?_)
        · -- taken
          refine g_iload_n 108 O dX6_timesNow_108 rfl 7 rfl ?_
          refine g_iconst 109 O (v := 1) dX6_timesNow_109 (by decide) ?_
          refine g_icmp_ne 110 O 118 dX6_timesNow_110 (by decide) (fun h110 => ?_) (fun h110 => ?_)
          · -- taken
            refine g_aload_n 118 O dX6_timesNow_118 rfl 4 rfl ?_
            refine g_get 119 O (v := .long (lN (tm z y hr wn s k).2.1)) inX6 0 rfl rfl 30 (by decide) kf_X6_234 rfl dX6_timesNow_119 ?_
            refine g_l2i 122 O dX6_timesNow_122 ?_
            refine g_si (nI (tm z y hr wn s k).2.1) (lN_i _) ?_
            exact g_iret 123 O dX6_timesNow_123 (by rw [hP0, ← e, if_neg h100, if_neg h110]; exact ⟨_, rfl, rfl, so', vl', jg', tko', _, rfl⟩)
          · -- not taken
            refine g_iload 113 O dX6_timesNow_113 1 rfl ?_
            refine g_goto 115 O 123 dX6_timesNow_115 (by decide) ?_
            exact g_iret 123 O dX6_timesNow_123 (by rw [hP0, ← e, if_neg h100, if_pos h110]; exact ⟨_, rfl, rfl, so', vl', jg', tko', _, rfl⟩)
        · -- not taken
          refine g_iload 103 O dX6_timesNow_103 2 rfl ?_
          refine g_goto 105 O 123 dX6_timesNow_105 (by decide) ?_
          exact g_iret 123 O dX6_timesNow_123 (by rw [hP0, ← e, if_pos h100]; exact ⟨_, rfl, rfl, so', vl', jg', tko', _, rfl⟩)
      · -- not taken
        have hlt : k < tn := by rw [hp0] at h40; exact lt_of_nge (by omega) h40
        refine g_aload_n 43 O dX6_timesNow_43 rfl 4 rfl ?_
        refine g_iconst 44 O (v := 2) dX6_timesNow_44 (by decide) ?_
        refine g_callV 45 O (na := 1) (av := [.int 2]) (c_X6_draw l E a mw msd mn mon mhn mrd mtn mad mpn se wo jf ow oj kf ff vf cf tf pb fat whl nw nwd njn (nI (NR y)) so' vl' jg' tko' (lN (tm z y hr wn s k).2.1) hh_ ik kw kh kr kt kc ko 2 (tm z y hr wn s k).2.1 2 (by first | exact ht.2 | exact hn1) rfl rfl (by decide) (by decide)) kl_X6_244 km_X6_draw kv_X6_draw ki_X6 kc_X6_draw (by decide +kernel) rfl (Nat.le_of_ble_eq_true rfl) (Nat.le_of_ble_eq_true rfl) (fun _ h => h) 0 rfl rfl (fun s => s) (fun _ _ _ _ h => h) rfl (Nat.le_of_ble_eq_true rfl) dX6_timesNow_45 (fun v9 s9 hv9 => ?_)
        obtain ⟨r9, rfl, rfl, rfl⟩ := hv9
        refine g_if_ne 48 O 60 dX6_timesNow_48 (by decide) (fun h48 => ?_) (fun h48 => ?_)
        · -- taken
          have hd0 : ¬ dr (nx (tm z y hr wn s k).2.1) 2 = 0 := fun e => h48 (by rw [e]; rfl)
          refine g_iload 60 O dX6_timesNow_60 2 rfl ?_
          refine g_iconst 62 O (v := 1) dX6_timesNow_62 (by decide) ?_
          refine g_aload_n 63 O dX6_timesNow_63 rfl 4 rfl ?_
          refine g_bipush 64 O (v := 6) dX6_timesNow_64 (by decide) ?_
          refine g_callV 66 O (na := 1) (av := [.int 6]) (c_X6_draw l E a mw msd mn mon mhn mrd mtn mad mpn se wo jf ow oj kf ff vf cf tf pb fat whl nw nwd njn (nI (NR y)) so' vl' jg' tko' (lN (nx (tm z y hr wn s k).2.1)) hh_ ik kw kh kr kt kc ko 6 (nx (tm z y hr wn s k).2.1) 6 (by first | exact ht.2 | exact hn1) rfl rfl (by decide) (by decide)) kl_X6_244 km_X6_draw kv_X6_draw ki_X6 kc_X6_draw (by decide +kernel) rfl (Nat.le_of_ble_eq_true rfl) (Nat.le_of_ble_eq_true rfl) (fun _ h => h) 0 rfl rfl (fun s => s) (fun _ _ _ _ h => h) rfl (Nat.le_of_ble_eq_true rfl) dX6_timesNow_66 (fun v9 s9 hv9 => ?_)
          obtain ⟨r9, rfl, rfl, rfl⟩ := hv9
          refine g_ishl 69 O dX6_timesNow_69 ?_
          refine g_ixor 70 O dX6_timesNow_70 ?_
          have ek : (tm z y hr wn s (k + 1)).1 = fl (tm z y hr wn s k).1 (dr (nx (nx (tm z y hr wn s k).2.1)) 6) ∧ (tm z y hr wn s (k + 1)).2.1 = nx (nx (tm z y hr wn s k).2.1) := by rw [tm, if_neg hd0]; exact ⟨rfl, rfl⟩
          refine g_si (nI (tm z y hr wn s (k + 1)).1) (by rw [ek.1]; exact (fl_ok _ ht.1 _ (Nat.mod_lt _ (by decide))).1) ?_
          rw [show lN (nx (nx (tm z y hr wn s k).2.1)) = lN (tm z y hr wn s (k + 1)).2.1 from by rw [ek.2]]
          refine g_istore 71 O (lv' := [(6, .int (nI (tm z y hr wn s (k + 1)).1)), (8, .int (nI k)), (7, .int (nI (tm z y hr wn s k).2.2)), (4, .long (som z y)), (0, .ref (a 0)), (1, .int p0), (2, .int p1), (3, .int p2)]) dX6_timesNow_71 (by decide) rfl ?_
          refine g_iload 73 O dX6_timesNow_73 2 rfl ?_
          refine g_lload 75 O dX6_timesNow_75 3 rfl ?_
          refine g_iload 77 O dX6_timesNow_77 0 rfl ?_
          refine g_callS 79 O (na := 2) (av := [.long (som z y), .int (nI (tm z y hr wn s (k + 1)).1)]) (c_X6_isIn l E _ _ (som z y) (nI ((tm z y hr wn s (k + 1)).1)) ((tm z y hr wn s (k + 1)).1) rfl ht1.1) kl_X6_158 ks_X6_isIn ki_X6 kc_X6_isIn (by decide +kernel) rfl (Nat.le_of_ble_eq_true rfl) (Nat.le_of_ble_eq_true rfl) (fun _ h => h) (fun s => s) (fun _ _ _ _ h => h) rfl (Nat.le_of_ble_eq_true rfl) dX6_timesNow_79 (fun v9 s9 hv9 => ?_)
          obtain ⟨rfl, rfl⟩ := hv9
          refine g_if_eq 82 O 89 dX6_timesNow_82 (by decide) (fun h82 => ?_) (fun h82 => ?_)
          · -- taken
            refine g_iconst 89 O (v := 0) dX6_timesNow_89 (by decide) ?_
            refine g_iadd 90 O dX6_timesNow_90 ?_
            refine g_si (nI (tm z y hr wn s (k + 1)).2.2) (by rw [tm_c, if_neg (by rw [bi_f h82]; decide), Nat.add_zero]; exact Int32.add_zero _) ?_
            refine g_istore 91 O (lv' := [(7, .int (nI (tm z y hr wn s (k + 1)).2.2)), (6, .int (nI (tm z y hr wn s (k + 1)).1)), (8, .int (nI k)), (4, .long (som z y)), (0, .ref (a 0)), (1, .int p0), (2, .int p1), (3, .int p2)]) dX6_timesNow_91 (by decide) rfl ?_
            refine g_iinc 93 O (v := nI (k + 1)) (q := 2) (lv' := [(8, .int (nI (k + 1))), (7, .int (nI (tm z y hr wn s (k + 1)).2.2)), (6, .int (nI (tm z y hr wn s (k + 1)).1)), (4, .long (som z y)), (0, .ref (a 0)), (1, .int p0), (2, .int p1), (3, .int p2)]) dX6_timesNow_93 rfl (nI_1 k) (by decide) rfl ?_
            refine g_goto 96 O 37 dX6_timesNow_96 (by decide) ?_
            refine g_sub [0, 1, 2, 3, 4, 5, 6, 7] (lv' := [(8, .int (nI (k + 1))), (7, .int (nI (tm z y hr wn s (k + 1)).2.2)), (6, .int (nI (tm z y hr wn s (k + 1)).1)), (4, .long (som z y)), (0, .ref (a 0)), (1, .int p0), (2, .int p1), (3, .int p2)]) rfl ?_
            exact ih37 (k + 1) (by omega) (by omega)
          · -- not taken
            refine g_iconst 85 O (v := 1) dX6_timesNow_85 (by decide) ?_
            refine g_goto 86 O 90 dX6_timesNow_86 (by decide) ?_
            refine g_iadd 90 O dX6_timesNow_90 ?_
            refine g_si (nI (tm z y hr wn s (k + 1)).2.2) (by rw [tm_c, if_pos (bi_t h82)]; exact nI_1 _) ?_
            refine g_istore 91 O (lv' := [(7, .int (nI (tm z y hr wn s (k + 1)).2.2)), (6, .int (nI (tm z y hr wn s (k + 1)).1)), (8, .int (nI k)), (4, .long (som z y)), (0, .ref (a 0)), (1, .int p0), (2, .int p1), (3, .int p2)]) dX6_timesNow_91 (by decide) rfl ?_
            refine g_iinc 93 O (v := nI (k + 1)) (q := 2) (lv' := [(8, .int (nI (k + 1))), (7, .int (nI (tm z y hr wn s (k + 1)).2.2)), (6, .int (nI (tm z y hr wn s (k + 1)).1)), (4, .long (som z y)), (0, .ref (a 0)), (1, .int p0), (2, .int p1), (3, .int p2)]) dX6_timesNow_93 rfl (nI_1 k) (by decide) rfl ?_
            refine g_goto 96 O 37 dX6_timesNow_96 (by decide) ?_
            refine g_sub [0, 1, 2, 3, 4, 5, 6, 7] (lv' := [(8, .int (nI (k + 1))), (7, .int (nI (tm z y hr wn s (k + 1)).2.2)), (6, .int (nI (tm z y hr wn s (k + 1)).1)), (4, .long (som z y)), (0, .ref (a 0)), (1, .int p0), (2, .int p1), (3, .int p2)]) rfl ?_
            exact ih37 (k + 1) (by omega) (by omega)
        · -- not taken
          have hd0 : dr (nx (tm z y hr wn s k).2.1) 2 = 0 := (nI_eq (b := 0) (Nat.lt_of_lt_of_le (Nat.mod_lt _ (by decide)) (by decide)) (by decide)).mp h48
          refine g_aload_n 51 O dX6_timesNow_51 rfl 4 rfl ?_
          refine g_iload 52 O dX6_timesNow_52 2 rfl ?_
          refine g_callV 54 O (na := 1) (av := [.int (nI (tm z y hr wn s k).1)]) (c_X6_roundFrom l E a mw msd mn mon mhn mrd mtn mad mpn se wo jf ow oj kf ff vf cf tf pb fat whl nw nwd njn (nI (NR y)) so' vl' jg' tko' (lN (nx (tm z y hr wn s k).2.1)) hh_ ik kw kh kr kt kc ko (nI (tm z y hr wn s k).1) y z hy.1 rfl hso hr hh hy0 htk (tm z y hr wn s k).1 rfl ht.1) kl_X6_207 km_X6_roundFrom kv_X6_roundFrom ki_X6 kc_X6_roundFrom (by decide +kernel) rfl (Nat.le_of_ble_eq_true rfl) (Nat.le_of_ble_eq_true rfl) (fun _ h => h) 0 rfl rfl (fun s => s) (fun _ _ _ _ h => h) rfl (Nat.le_of_ble_eq_true rfl) dX6_timesNow_54 (fun v9 s9 hv9 => ?_)
          obtain ⟨rfl, rfl⟩ := hv9
          refine g_goto 57 O 71 dX6_timesNow_57 (by decide) ?_
          have ek : (tm z y hr wn s (k + 1)).1 = bR z y hr hr.1 (tm z y hr wn s k).1 ∧ (tm z y hr wn s (k + 1)).2.1 = nx (tm z y hr wn s k).2.1 := by rw [tm, if_pos hd0]; exact ⟨rfl, rfl⟩
          refine g_si (nI (tm z y hr wn s (k + 1)).1) (by rw [ek.1]) ?_
          rw [show lN (nx (tm z y hr wn s k).2.1) = lN (tm z y hr wn s (k + 1)).2.1 from by rw [ek.2]]
          refine g_istore 71 O (lv' := [(6, .int (nI (tm z y hr wn s (k + 1)).1)), (8, .int (nI k)), (7, .int (nI (tm z y hr wn s k).2.2)), (4, .long (som z y)), (0, .ref (a 0)), (1, .int p0), (2, .int p1), (3, .int p2)]) dX6_timesNow_71 (by decide) rfl ?_
          refine g_iload 73 O dX6_timesNow_73 2 rfl ?_
          refine g_lload 75 O dX6_timesNow_75 3 rfl ?_
          refine g_iload 77 O dX6_timesNow_77 0 rfl ?_
          refine g_callS 79 O (na := 2) (av := [.long (som z y), .int (nI (tm z y hr wn s (k + 1)).1)]) (c_X6_isIn l E _ _ (som z y) (nI ((tm z y hr wn s (k + 1)).1)) ((tm z y hr wn s (k + 1)).1) rfl ht1.1) kl_X6_158 ks_X6_isIn ki_X6 kc_X6_isIn (by decide +kernel) rfl (Nat.le_of_ble_eq_true rfl) (Nat.le_of_ble_eq_true rfl) (fun _ h => h) (fun s => s) (fun _ _ _ _ h => h) rfl (Nat.le_of_ble_eq_true rfl) dX6_timesNow_79 (fun v9 s9 hv9 => ?_)
          obtain ⟨rfl, rfl⟩ := hv9
          refine g_if_eq 82 O 89 dX6_timesNow_82 (by decide) (fun h82 => ?_) (fun h82 => ?_)
          · -- taken
            refine g_iconst 89 O (v := 0) dX6_timesNow_89 (by decide) ?_
            refine g_iadd 90 O dX6_timesNow_90 ?_
            refine g_si (nI (tm z y hr wn s (k + 1)).2.2) (by rw [tm_c, if_neg (by rw [bi_f h82]; decide), Nat.add_zero]; exact Int32.add_zero _) ?_
            refine g_istore 91 O (lv' := [(7, .int (nI (tm z y hr wn s (k + 1)).2.2)), (6, .int (nI (tm z y hr wn s (k + 1)).1)), (8, .int (nI k)), (4, .long (som z y)), (0, .ref (a 0)), (1, .int p0), (2, .int p1), (3, .int p2)]) dX6_timesNow_91 (by decide) rfl ?_
            refine g_iinc 93 O (v := nI (k + 1)) (q := 2) (lv' := [(8, .int (nI (k + 1))), (7, .int (nI (tm z y hr wn s (k + 1)).2.2)), (6, .int (nI (tm z y hr wn s (k + 1)).1)), (4, .long (som z y)), (0, .ref (a 0)), (1, .int p0), (2, .int p1), (3, .int p2)]) dX6_timesNow_93 rfl (nI_1 k) (by decide) rfl ?_
            refine g_goto 96 O 37 dX6_timesNow_96 (by decide) ?_
            refine g_sub [0, 1, 2, 3, 4, 5, 6, 7] (lv' := [(8, .int (nI (k + 1))), (7, .int (nI (tm z y hr wn s (k + 1)).2.2)), (6, .int (nI (tm z y hr wn s (k + 1)).1)), (4, .long (som z y)), (0, .ref (a 0)), (1, .int p0), (2, .int p1), (3, .int p2)]) rfl ?_
            exact ih37 (k + 1) (by omega) (by omega)
          · -- not taken
            refine g_iconst 85 O (v := 1) dX6_timesNow_85 (by decide) ?_
            refine g_goto 86 O 90 dX6_timesNow_86 (by decide) ?_
            refine g_iadd 90 O dX6_timesNow_90 ?_
            refine g_si (nI (tm z y hr wn s (k + 1)).2.2) (by rw [tm_c, if_pos (bi_t h82)]; exact nI_1 _) ?_
            refine g_istore 91 O (lv' := [(7, .int (nI (tm z y hr wn s (k + 1)).2.2)), (6, .int (nI (tm z y hr wn s (k + 1)).1)), (8, .int (nI k)), (4, .long (som z y)), (0, .ref (a 0)), (1, .int p0), (2, .int p1), (3, .int p2)]) dX6_timesNow_91 (by decide) rfl ?_
            refine g_iinc 93 O (v := nI (k + 1)) (q := 2) (lv' := [(8, .int (nI (k + 1))), (7, .int (nI (tm z y hr wn s (k + 1)).2.2)), (6, .int (nI (tm z y hr wn s (k + 1)).1)), (4, .long (som z y)), (0, .ref (a 0)), (1, .int p0), (2, .int p1), (3, .int p2)]) dX6_timesNow_93 rfl (nI_1 k) (by decide) rfl ?_
            refine g_goto 96 O 37 dX6_timesNow_96 (by decide) ?_
            refine g_sub [0, 1, 2, 3, 4, 5, 6, 7] (lv' := [(8, .int (nI (k + 1))), (7, .int (nI (tm z y hr wn s (k + 1)).2.2)), (6, .int (nI (tm z y hr wn s (k + 1)).1)), (4, .long (som z y)), (0, .ref (a 0)), (1, .int p0), (2, .int p1), (3, .int p2)]) rfl ?_
            exact ih37 (k + 1) (by omega) (by omega)
  exact L37 _ 0 (Nat.zero_le _) (Nat.lt_succ_self _)

set_option maxRecDepth 100000 in
set_option maxHeartbeats 4000000 in
theorem c_X6_doAct (l : Launch) (E : Ev) (a : Nat → Nat) (mw msd mn mon mhn mrd mtn mad mpn : Int32) (se wo jf ow oj kf ff vf cf tf pb : Nat → Int32) (fat whl nw : Int32) (nwd njn : Nat → Int32) (rd : Int32) (so vl : Nat → Int64) (jg : Nat → Int32) (tko : Nat → Int32) (sdn hh_ : Int64) (ik kw kh kr kt : Int32) (kc ko : Nat → Int32) (p0 : Int32) (y : Sy) (z : Nat → Nat) (hy4 : y.1 ≤ 4) (hrd : rd = nI (NR y)) (hso : ∀ r, r < NR y → so r = TR z y r) (hr : Hr) (hh : HrW (mhn, kf, ff, vf, cf) hr) (hy0 : ¬ y.1 = 0) (p : Nat) (hp : p0 = nI p) (hp0 : p < hr.1) (wn : Nat) (hwn : mw = nI wn) (hwn0 : wn < 64) : Ctr l yX6_doAct cX6_doAct 3 none 3 68 E (wM E a) [.ref (a 0), .int p0] (((mw, msd, mn, mon, mhn, mrd, mtn, mad, mpn), (se, wo, jf, ow, oj, kf, ff, vf, cf, tf, pb), (fat, whl, nw, nwd, njn), (rd, so, vl, jg), tko, (sdn, hh_), (ik, kw, kh, kr, kt, kc, ko))) (pV (fun x => ∃ cf' : Nat → Int32, x = ((nI (aw z y hr p wn), msd, mn, mon, mhn, mrd, mtn, mad, mpn), (se, wo, jf, ow, oj, kf, ff, vf, cf', tf, pb), (fat, whl, nw, nwd, njn), (rd, so, vl, jg), tko, (sdn, hh_), (ik, kw, kh, kr, kt, kc, ko)) ∧ HrW (mhn, kf, ff, vf, cf') (hr.1, hr.2.1, hr.2.2.1, hr.2.2.2.1, ach z y hr p wn hr.2.2.2.2))) := by
  refine Ctr.of' (by decide +kernel) (Nat.le_of_ble_eq_true rfl) (fun X P0 hP0 O => ?_)
  refine g_sub [0, 1] (lv' := [(0, .ref (a 0)), (1, .int p0)]) rfl ?_
  have hh4 := hh.2.1
  refine g_aload_n 0 O dX6_doAct_0 rfl 0 rfl ?_
  refine g_iload_n 1 O dX6_doAct_1 rfl 1 rfl ?_
  refine g_aload_n 2 O dX6_doAct_2 rfl 0 rfl ?_
  refine g_iload_n 3 O dX6_doAct_3 rfl 1 rfl ?_
  refine g_callV 4 O (na := 1) (av := [.int p0]) (c_X6_takes l E a mw msd mn mon mhn mrd mtn mad mpn se wo jf ow oj kf ff vf cf tf pb fat whl nw nwd njn rd so vl jg tko sdn hh_ ik kw kh kr kt kc ko p0 y z hy4 hrd hso hr hh p hp hp0) kl_X6_181 km_X6_takes kv_X6_takes ki_X6 kc_X6_takes (by decide +kernel) rfl (Nat.le_of_ble_eq_true rfl) (Nat.le_of_ble_eq_true rfl) (fun _ h => h) 0 rfl rfl (fun s => s) (fun _ _ _ _ h => h) rfl (Nat.le_of_ble_eq_true rfl) dX6_doAct_4 (fun v9 s9 hv9 => ?_)
  obtain ⟨rfl, rfl⟩ := hv9
  refine g_si (nI (tk z y (hr.2.1 p))) (by rw [tkI, if_neg hy0]) ?_
  refine g_aload_n 7 O dX6_doAct_7 rfl 0 rfl ?_
  refine g_get 8 O (v := .int mw) inX6 0 rfl rfl 0 (by decide) kf_X6_162 rfl dX6_doAct_8 ?_
  refine g_callV 11 O (na := 3) (av := [.int p0, .int (nI (tk z y (hr.2.1 p))), .int mw]) (c_X6_behind l E a mw msd mn mon mhn mrd mtn mad mpn se wo jf ow oj kf ff vf cf tf pb fat whl nw nwd njn rd so vl jg tko sdn hh_ ik kw kh kr kt kc ko p0 (nI (tk z y (hr.2.1 p))) mw y z hy4 hrd hso hr hh p hp hp0 (tk z y (hr.2.1 p)) rfl (tk_lt (NR_pos (Nat.pos_of_ne_zero hy0))) wn hwn hwn0) kl_X6_190 km_X6_behind kv_X6_behind ki_X6 kc_X6_behind (by decide +kernel) rfl (Nat.le_of_ble_eq_true rfl) (Nat.le_of_ble_eq_true rfl) (fun _ h => h) 0 rfl rfl (fun s => s) (fun _ _ _ _ h => h) rfl (Nat.le_of_ble_eq_true rfl) dX6_doAct_11 (fun v9 s9 hv9 => ?_)
  obtain ⟨rfl, rfl⟩ := hv9
  refine g_istore_n 14 O (lv' := [(2, .int (nI (aw z y hr p wn))), (0, .ref (a 0)), (1, .int p0)]) dX6_doAct_14 rfl (by decide) rfl ?_
  refine g_aload_n 15 O dX6_doAct_15 rfl 1 rfl ?_
  refine g_get 16 O (v := .ref (a 9)) inX6 0 rfl rfl 13 (by decide) kf_X6_34 rfl dX6_doAct_16 ?_
  refine g_iload_n 19 O dX6_doAct_19 rfl 2 rfl ?_
  refine g_dup2 20 O dX6_doAct_20 rfl rfl ?_
  refine g_iald 21 O 9 p rfl (hp) (by omega) (by decide) dX6_doAct_21 ?_
  refine g_iload_n 22 O dX6_doAct_22 rfl 0 rfl ?_
  refine g_aload_n 23 O dX6_doAct_23 rfl 1 rfl ?_
  refine g_get 24 O (v := .int mw) inX6 0 rfl rfl 0 (by decide) kf_X6_162 rfl dX6_doAct_24 ?_
  refine g_icmp_ne 27 O 34 dX6_doAct_27 (by decide) (fun h27 => ?_) (fun h27 => ?_)
  · -- taken
    have e : ¬ aw z y hr p wn = wn := fun e => h27 (by rw [e, hwn])
    refine g_iconst 34 O (v := 1) dX6_doAct_34 (by decide) ?_
    refine g_iadd 35 O dX6_doAct_35 ?_
    refine g_iast 36 O (((mw, msd, mn, mon, mhn, mrd, mtn, mad, mpn), (se, wo, jf, ow, oj, kf, ff, vf, upd cf p ((cf p) + 1), tf, pb), (fat, whl, nw, nwd, njn), (rd, so, vl, jg), tko, (sdn, hh_), (ik, kw, kh, kr, kt, kc, ko))) 9 p rfl (hp) (by omega) (by decide) rfl dX6_doAct_36 ?_
    refine g_aload_n 37 O dX6_doAct_37 rfl 1 rfl ?_
    refine g_iload_n 38 O dX6_doAct_38 rfl 0 rfl ?_
    refine g_put 39 O inX6 tyX6_ok nmX6 (((nI (aw z y hr p wn), msd, mn, mon, mhn, mrd, mtn, mad, mpn), (se, wo, jf, ow, oj, kf, ff, vf, upd cf p ((cf p) + 1), tf, pb), (fat, whl, nw, nwd, njn), (rd, so, vl, jg), tko, (sdn, hh_), (ik, kw, kh, kr, kt, kc, ko))) 0 rfl rfl 0 (by decide) kf_X6_162 rfl (rfl) (rfl) (Nat.le_of_ble_eq_true rfl) rfl dX6_doAct_39 ?_
    exact g_vret 42 O dX6_doAct_42 (by rw [hP0]; exact ⟨rfl, _, rfl, HrW_c1 hh p hp0 _ (by rw [ach, if_neg e])⟩)
  · -- not taken
    have e : aw z y hr p wn = wn := by rw [hwn] at h27; exact (nI_eq (by have := bh_lt hh hp0 (TR z y (tk z y (hr.2.1 p))) hwn0; unfold aw; omega) (by omega)).mp h27
    refine g_iconst 30 O (v := 0) dX6_doAct_30 (by decide) ?_
    refine g_goto 31 O 35 dX6_doAct_31 (by decide) ?_
    refine g_iadd 35 O dX6_doAct_35 ?_
    refine g_iast 36 O (((mw, msd, mn, mon, mhn, mrd, mtn, mad, mpn), (se, wo, jf, ow, oj, kf, ff, vf, upd cf p ((cf p) + 0), tf, pb), (fat, whl, nw, nwd, njn), (rd, so, vl, jg), tko, (sdn, hh_), (ik, kw, kh, kr, kt, kc, ko))) 9 p rfl (hp) (by omega) (by decide) rfl dX6_doAct_36 ?_
    refine g_aload_n 37 O dX6_doAct_37 rfl 1 rfl ?_
    refine g_iload_n 38 O dX6_doAct_38 rfl 0 rfl ?_
    refine g_put 39 O inX6 tyX6_ok nmX6 (((nI (aw z y hr p wn), msd, mn, mon, mhn, mrd, mtn, mad, mpn), (se, wo, jf, ow, oj, kf, ff, vf, upd cf p ((cf p) + 0), tf, pb), (fat, whl, nw, nwd, njn), (rd, so, vl, jg), tko, (sdn, hh_), (ik, kw, kh, kr, kt, kc, ko))) 0 rfl rfl 0 (by decide) kf_X6_162 rfl (rfl) (rfl) (Nat.le_of_ble_eq_true rfl) rfl dX6_doAct_39 ?_
    exact g_vret 42 O dX6_doAct_42 (by rw [hP0]; exact ⟨rfl, _, rfl, HrW_c0 hh p _ (by rw [ach, if_pos e])⟩)

set_option maxRecDepth 100000 in
set_option maxHeartbeats 4000000 in
theorem c_X6_readingsOf (l : Launch) (E : Ev) (a : Nat → Nat) (mw msd mn mon mhn mrd mtn mad mpn : Int32) (se wo jf ow oj kf ff vf cf tf pb : Nat → Int32) (fat whl nw : Int32) (nwd njn : Nat → Int32) (rd : Int32) (so vl : Nat → Int64) (jg : Nat → Int32) (tko : Nat → Int32) (sdn hh_ : Int64) (ik kw kh kr kt : Int32) (kc ko : Nat → Int32) (p0 p1 : Int32) (y : Sy) (hw : p0 = nI y.1) (hy : YM (fun k => if p1 = 0 then wo k else ow k) (fun k => if p1 = 0 then jf k else oj k) y) : Ctr l yX6_readingsOf cX6_readingsOf 3 (some .int) 2 46 E (wM E a) [.ref (a 0), .int p0, .int p1] (((mw, msd, mn, mon, mhn, mrd, mtn, mad, mpn), (se, wo, jf, ow, oj, kf, ff, vf, cf, tf, pb), (fat, whl, nw, nwd, njn), (rd, so, vl, jg), tko, (sdn, hh_), (ik, kw, kh, kr, kt, kc, ko))) (fun v8 s8 => v8 = some (.int (nI (NR y))) ∧ s8 = ((mw, msd, mn, mon, mhn, mrd, mtn, mad, mpn), (se, wo, jf, ow, oj, kf, ff, vf, cf, tf, pb), (fat, whl, nw, nwd, njn), (rd, so, vl, jg), tko, (sdn, hh_), (ik, kw, kh, kr, kt, kc, ko))) := by
  refine Ctr.of' (by decide +kernel) (Nat.le_of_ble_eq_true rfl) (fun X P0 hP0 O => ?_)
  refine g_sub [0, 1, 2] (lv' := [(0, .ref (a 0)), (1, .int p0), (2, .int p1)]) rfl ?_
  have hy4 := hy.1
  rw [show (p0 : Int32) = nI y.1 from hw]
  refine g_iload_n 0 O dX6_readingsOf_0 rfl 1 rfl ?_
  refine g_if_ne 1 O 8 dX6_readingsOf_1 (by decide) (fun h1 => ?_) (fun h1 => ?_)
  · -- taken
    have n0 : ¬ y.1 = 0 := fun e => h1 (by rw [e]; rfl)
    refine g_iload_n 8 O dX6_readingsOf_8 rfl 1 rfl ?_
    refine g_callS 9 O (na := 1) (av := [.int (nI y.1)]) (c_X6_brackets l E _ _ (nI y.1) y.1 rfl (by omega)) kl_X6_123 ks_X6_brackets ki_X6 kc_X6_brackets (by decide +kernel) rfl (Nat.le_of_ble_eq_true rfl) (Nat.le_of_ble_eq_true rfl) (fun _ h => h) (fun s => s) (fun _ _ _ _ h => h) rfl (Nat.le_of_ble_eq_true rfl) dX6_readingsOf_9 (fun v9 s9 hv9 => ?_)
    obtain ⟨rfl, rfl⟩ := hv9
    refine g_aload_n 12 O dX6_readingsOf_12 rfl 0 rfl ?_
    refine g_iload_n 13 O dX6_readingsOf_13 rfl 1 rfl ?_
    refine g_iload_n 14 O dX6_readingsOf_14 rfl 2 rfl ?_
    refine g_callV 15 O (na := 2) (av := [.int (nI y.1), .int p1]) (c_X6_bothMany l E a mw msd mn mon mhn mrd mtn mad mpn se wo jf ow oj kf ff vf cf tf pb fat whl nw nwd njn rd so vl jg tko sdn hh_ ik kw kh kr kt kc ko p1 y y.1 rfl hy) kl_X6_120 km_X6_bothMany kv_X6_bothMany ki_X6 kc_X6_bothMany (by decide +kernel) rfl (Nat.le_of_ble_eq_true rfl) (Nat.le_of_ble_eq_true rfl) (fun _ h => h) 0 rfl rfl (fun s => s) (fun _ _ _ _ h => h) rfl (Nat.le_of_ble_eq_true rfl) dX6_readingsOf_15 (fun v9 s9 hv9 => ?_)
    obtain ⟨rfl, rfl⟩ := hv9
    refine g_iload_n 18 O dX6_readingsOf_18 rfl 1 rfl ?_
    refine g_iadd 19 O dX6_readingsOf_19 ?_
    refine g_ishl 20 O dX6_readingsOf_20 ?_
    refine g_si (nI (NR y)) (by rw [NR, if_neg n0]; exact rd_ok _ (by omega) _ (by have := npl_le y.2.2.2 y.1; omega)) ?_
    exact g_iret 21 O dX6_readingsOf_21 (by rw [hP0]; exact ⟨rfl, rfl⟩)
  · -- not taken
    have n0 : y.1 = 0 := (nI_eq (b := 0) (by omega) (by decide)).mp h1
    refine g_iconst 4 O (v := 0) dX6_readingsOf_4 (by decide) ?_
    refine g_goto 5 O 21 dX6_readingsOf_5 (by decide) ?_
    refine g_si (nI (NR y)) (by rw [NR, if_pos n0]; rfl) ?_
    exact g_iret 21 O dX6_readingsOf_21 (by rw [hP0]; exact ⟨rfl, rfl⟩)
