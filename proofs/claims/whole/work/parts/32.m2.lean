def PRW (cs : Nat → Int32) (k n st : Nat) (w jf : Nat → Int32) : Prop := (∀ j, j < n → w j = nI (2 * (pr cs k).2.2.1 j + ((pr cs k).2.2.2.1 j).toNat) ∧ (pr cs k).2.2.1 j < 6) ∧ ∀ j, (j + 1 < n ∨ (j + 1 = n ∧ ¬ st = 2)) → jf j = bi ((pr cs k).2.2.2.2 (j + 1))
theorem PRW_A {cs : Nat → Int32} {k n st : Nat} {w jf : Nat → Int32} (h : PRW cs k n st w jf) (hrs : rs cs k = some (st, n)) (h2 : st = 2) : PRW cs (k + 1) n 0 w (upd jf (n - 1) (bi (decide (cs k = 43)))) := by
  have hp := pr_rs hrs
  simp only at hp
  subst h2
  refine ⟨?_, ?_⟩
  · rw [pr_2 hp.1]; exact h.1
  · rw [pr_2 hp.1]
    intro j hj
    show upd jf (n - 1) (bi (decide (cs k = 43))) j = bi (if j + 1 = (pr cs k).2.1 then decide (cs k = 43) else (pr cs k).2.2.2.2 (j + 1))
    rw [hp.2]
    by_cases e : j + 1 = n
    · rw [if_pos e, show j = n - 1 by omega, upd_s]
    · rw [if_neg e, upd_n _ _ (by omega)]
      exact h.2 j (Or.inl (by omega))
theorem PRW_B {cs : Nat → Int32} {k n st : Nat} {w jf : Nat → Int32} (h : PRW cs k n st w jf) (h2 : st = 2) (x : Int32) : PRW cs k n st w (upd jf (n - 1) x) :=
  ⟨h.1, fun j hj => by
    rcases hj with q | q
    · rw [upd_n _ _ (by omega)]; exact h.2 j (Or.inl q)
    · exact absurd h2 q.2⟩
theorem PRW_C {cs : Nat → Int32} {k n st : Nat} {w jf : Nat → Int32} (h : PRW cs k n st w jf) (hrs : rs cs k = some (st, n)) (h0 : st = 0) (hc : cs k = 110) : PRW cs (k + 1) n 1 w jf := by
  have hp := pr_rs hrs
  simp only at hp
  subst h0
  refine ⟨?_, ?_⟩
  · rw [pr_n hp.1 hc]; exact h.1
  · rw [pr_n hp.1 hc]
    intro j hj
    exact h.2 j (hj.elim Or.inl (fun q => Or.inr ⟨q.1, by decide⟩))
theorem PRW_D {cs : Nat → Int32} {k n st : Nat} {w jf : Nat → Int32} (h : PRW cs k n st w jf) (hrs : rs cs k = some (st, n)) (h2 : ¬ st = 2) (hl : 97 ≤ cs k ∧ cs k ≤ 102) : PRW cs (k + 1) (n + 1) 2 (upd w n (2 * (cs k - 97) + nI st)) jf := by
  have hp := pr_rs hrs
  simp only at hp
  obtain ⟨l1, l2, l3, -⟩ := let_of hl
  have hst := (rs_st hrs).1
  simp only at hst
  rw [PRW, pr_l (by rw [hp.1]; exact h2) l3]
  refine ⟨fun j hj => ?_, fun j hj => ?_⟩
  · show upd w n (2 * (cs k - 97) + nI st) j = nI (2 * (if j = (pr cs k).2.1 then (cs k).toNatClampNeg - 97 else (pr cs k).2.2.1 j) + (if j = (pr cs k).2.1 then decide ((pr cs k).1 = 1) else (pr cs k).2.2.2.1 j).toNat) ∧ (if j = (pr cs k).2.1 then (cs k).toNatClampNeg - 97 else (pr cs k).2.2.1 j) < 6
    rw [hp.2, hp.1]
    by_cases e : j = n
    · subst e
      simp only [upd_s, if_true]
      refine ⟨?_, l2⟩
      rw [l1, show (2 : Int32) = nI 2 from rfl, pk_mul, nI_add]
      have h01 : st = 0 ∨ st = 1 := by omega
      rcases h01 with rfl | rfl <;> rfl
    · simp only [upd_n _ _ e, e, if_false]
      exact h.1 j (by omega)
  · rcases hj with q | q
    · by_cases e : j + 1 = n
      · exact h.2 j (Or.inr ⟨e, h2⟩)
      · exact h.2 j (Or.inl (by omega))
    · exact absurd rfl q.2
theorem sp_l {c : Int32} {st n : Nat} (h2 : ¬ st = 2) (hs : st ≤ 2) (hl : 97 ≤ c ∧ c ≤ 102) : sp (st, n) c = some (2, n + 1) := by
  have h01 : st = 0 ∨ st = 1 := by omega
  rcases h01 with rfl | rfl
  · exact sp0_l hl
  · exact sp1_l hl
theorem sp_x {c : Int32} {st n : Nat} (h2 : ¬ st = 2) (hs : st ≤ 2) (hn0 : ¬ (st = 0 ∧ c = 110)) (hc : ¬ (97 ≤ c ∧ c ≤ 102)) : sp (st, n) c = none := by
  have h01 : st = 0 ∨ st = 1 := by omega
  rcases h01 with rfl | rfl
  · exact sp0_x hc (fun q => hn0 ⟨rfl, q⟩)
  · exact sp1_x hc
theorem isSay_not2 {cs : Nat → Int32} {n st m : Nat} (h : rs cs n = some (st, m)) (h2 : ¬ st = 2) : isSay cs n = false := by
  unfold isSay
  rw [h]
  exact beq_false_of_ne h2
theorem rs_n1 {cs : Nat → Int32} : ∀ {k : Nat} {s : Nat × Nat}, rs cs k = some s → s.1 = 2 → 0 < s.2
  | 0, s, h, h2 => by rw [rs] at h; cases h; exact absurd h2 (by decide)
  | k + 1, s, h, h2 => by
    rw [rs] at h
    cases e : rs cs k with
    | none => rw [e] at h; cases h
    | some s0 =>
      rw [e] at h
      have h : sp s0 (cs k) = some s := h
      unfold sp at h
      split at h
      · split at h
        · cases h; exact absurd h2 (by show ¬ (0 : Nat) = 2; decide)
        · cases h
      · split at h
        · cases h; exact absurd h2 (by show ¬ (1 : Nat) = 2; decide)
        · split at h
          · cases h; exact Nat.succ_pos _
          · cases h

set_option maxRecDepth 100000 in
set_option maxHeartbeats 4000000 in
theorem c_X6_readSaying (l : Launch) (E : Ev) (a : Nat → Nat) (mw msd mn mon mhn mrd mtn mad mpn : Int32) (se wo jf ow oj kf ff vf cf tf pb : Nat → Int32) (fat whl nw : Int32) (nwd njn : Nat → Int32) (rd : Int32) (so vl : Nat → Int64) (jg : Nat → Int32) (tko : Nat → Int32) (sdn hh_ : Int64) (ik kw kh kr kt : Int32) (kc ko : Nat → Int32) (N : Nat) (pc : Nat → Int32) (hmp : mpn = nI N) (hN : N ≤ 14) (hpb : ∀ k, k < N → pb k = pc k) : Ctr l yX6_readSaying cX6_readSaying 5 none 2 45 E (wM E a) [.ref (a 0)] (((mw, msd, mn, mon, mhn, mrd, mtn, mad, mpn), (se, wo, jf, ow, oj, kf, ff, vf, cf, tf, pb), (fat, whl, nw, nwd, njn), (rd, so, vl, jg), tko, (sdn, hh_), (ik, kw, kh, kr, kt, kc, ko))) (pV (fun x => ∃ (nwd' njn' : Nat → Int32) (n : Nat), x = ((mw, msd, mn, mon, mhn, mrd, mtn, mad, mpn), (se, wo, jf, ow, oj, kf, ff, vf, cf, tf, pb), (nI (fsay pc N), bi (isSay pc N), nI n, nwd', njn'), (rd, so, vl, jg), tko, (sdn, hh_), (ik, kw, kh, kr, kt, kc, ko)) ∧ (isSay pc N = true → n = (pr pc N).2.1 ∧ PRW pc N n 2 nwd' njn'))) := by
  refine Ctr.of' (by decide +kernel) (Nat.le_of_ble_eq_true rfl) (fun X P0 hP0 O => ?_)
  refine g_sub [0] (lv' := [(0, .ref (a 0))]) rfl ?_
  refine g_aload_n 0 O dX6_readSaying_0 rfl 0 rfl ?_
  refine g_iconst 1 O (v := 0) dX6_readSaying_1 (by decide) ?_
  refine g_put 2 O inX6 tyX6_ok nmX6 (((mw, msd, mn, mon, mhn, mrd, mtn, mad, mpn), (se, wo, jf, ow, oj, kf, ff, vf, cf, tf, pb), (fat, whl, 0, nwd, njn), (rd, so, vl, jg), tko, (sdn, hh_), (ik, kw, kh, kr, kt, kc, ko))) 0 rfl rfl 22 (by decide) kf_X6_77 rfl (rfl) (rfl) (Nat.le_of_ble_eq_true rfl) rfl dX6_readSaying_2 ?_
  refine g_iconst 5 O (v := 0) dX6_readSaying_5 (by decide) ?_
  refine g_istore_n 6 O (lv' := [(1, .int 0), (0, .ref (a 0))]) dX6_readSaying_6 rfl (by decide) rfl ?_
  refine g_iconst 7 O (v := 0) dX6_readSaying_7 (by decide) ?_
  refine g_istore_n 8 O (lv' := [(2, .int 0), (1, .int 0), (0, .ref (a 0))]) dX6_readSaying_8 rfl (by decide) rfl ?_
  refine g_iconst 9 O (v := 1) dX6_readSaying_9 (by decide) ?_
  refine g_istore_n 10 O (lv' := [(3, .int 1), (2, .int 0), (1, .int 0), (0, .ref (a 0))]) dX6_readSaying_10 rfl (by decide) rfl ?_
  refine g_sub [0, 1, 2, 3] (lv' := [(3, .int 1), (2, .int 0), (1, .int 0), (0, .ref (a 0))]) rfl ?_
  have L11 : ∀ (fuel : Nat) (k st n gg : Nat) (nwd' njn' : Nat → Int32) (hk : k ≤ N) (hrs : rs pc k = some (st, n)) (hg : gg = 1 ∨ (gg = 0 ∧ k < N ∧ sp (st, n) (pc k) = none)) (hp : PRW pc k n st nwd' njn'), N - k + gg < fuel → G l E (wM E a) P0 X 5 (((mw, msd, mn, mon, mhn, mrd, mtn, mad, mpn), (se, wo, jf, ow, oj, kf, ff, vf, cf, tf, pb), (fat, whl, nI n, nwd', njn'), (rd, so, vl, jg), tko, (sdn, hh_), (ik, kw, kh, kr, kt, kc, ko))) 11 [(3, .int (nI gg)), (2, .int (nI k)), (1, .int (nI st)), (0, .ref (a 0))] [] := by
    intro fuel
    induction fuel with
    | zero => intro k st n gg nwd' njn' hk hrs hg hp hfu; exact absurd hfu (Nat.not_lt_zero _)
    | succ fuel ih11 =>
      intro k st n gg nwd' njn' hk hrs hg hp hfu
      have hst := rs_st hrs
      refine g_iload_n 11 O dX6_readSaying_11 rfl 1 rfl ?_
      refine g_aload_n 12 O dX6_readSaying_12 rfl 3 rfl ?_
      refine g_get 13 O (v := .int mpn) inX6 0 rfl rfl 18 (by decide) kf_X6_73 rfl dX6_readSaying_13 ?_
      refine g_icmp_ge 16 O 74 dX6_readSaying_16 (by decide) (fun h16 => ?_) (fun h16 => ?_)
      · -- taken
        have e : k = N := by rw [hmp] at h16; have := ge_of_le (n := N) (by omega) (by omega) h16; omega
        refine g_aload_n 74 O dX6_readSaying_74 rfl 3 rfl ?_
        refine g_iload_n 75 O dX6_readSaying_75 rfl 1 rfl ?_
        refine g_put 76 O inX6 tyX6_ok nmX6 (((mw, msd, mn, mon, mhn, mrd, mtn, mad, mpn), (se, wo, jf, ow, oj, kf, ff, vf, cf, tf, pb), (nI k, whl, nI n, nwd', njn'), (rd, so, vl, jg), tko, (sdn, hh_), (ik, kw, kh, kr, kt, kc, ko))) 0 rfl rfl 20 (by decide) kf_X6_84 rfl (rfl) (rfl) (Nat.le_of_ble_eq_true rfl) rfl dX6_readSaying_76 ?_
        refine g_aload_n 79 O dX6_readSaying_79 rfl 3 rfl ?_
        refine g_iload_n 80 O dX6_readSaying_80 rfl 1 rfl ?_
        refine g_aload_n 81 O dX6_readSaying_81 rfl 3 rfl ?_
        refine g_get 82 O (v := .int mpn) inX6 0 rfl rfl 18 (by decide) kf_X6_73 rfl dX6_readSaying_82 ?_
        refine g_icmp_ne 85 O 97 dX6_readSaying_85 (by decide) (fun h85 => False.elim (h85 (by rw [e, hmp]))) (fun h85 => ?_)
        refine g_iload_n 88 O dX6_readSaying_88 rfl 2 rfl ?_
        refine g_iconst 89 O (v := 2) dX6_readSaying_89 (by decide) ?_
        refine g_icmp_ne 90 O 97 dX6_readSaying_90 (by decide) (fun h90 => ?_) (fun h90 => ?_)
        · -- taken
          refine g_iconst 97 O (v := 0) dX6_readSaying_97 (by decide) ?_
          refine g_put 98 O inX6 tyX6_ok nmX6 (((mw, msd, mn, mon, mhn, mrd, mtn, mad, mpn), (se, wo, jf, ow, oj, kf, ff, vf, cf, tf, pb), (nI k, 0, nI n, nwd', njn'), (rd, so, vl, jg), tko, (sdn, hh_), (ik, kw, kh, kr, kt, kc, ko))) 0 rfl rfl 21 (by decide) kf_X6_87 rfl (rfl) (rfl) (Nat.le_of_ble_eq_true rfl) rfl dX6_readSaying_98 ?_
          exact g_vret 101 O dX6_readSaying_101 (by rw [hP0]; subst e; have hns := isSay_not2 hrs (fun q => h90 (by rw [q]; rfl)); exact ⟨rfl, nwd', njn', n, by rw [fsay_all hrs, hns]; rfl, fun q => absurd q (by rw [hns]; decide)⟩)
        · -- not taken
          refine g_iconst 93 O (v := 1) dX6_readSaying_93 (by decide) ?_
          refine g_goto 94 O 98 dX6_readSaying_94 (by decide) ?_
          refine g_put 98 O inX6 tyX6_ok nmX6 (((mw, msd, mn, mon, mhn, mrd, mtn, mad, mpn), (se, wo, jf, ow, oj, kf, ff, vf, cf, tf, pb), (nI k, 1, nI n, nwd', njn'), (rd, so, vl, jg), tko, (sdn, hh_), (ik, kw, kh, kr, kt, kc, ko))) 0 rfl rfl 21 (by decide) kf_X6_87 rfl (rfl) (rfl) (Nat.le_of_ble_eq_true rfl) rfl dX6_readSaying_98 ?_
          exact g_vret 101 O dX6_readSaying_101 (by rw [hP0]; subst e; have hst2 : st = 2 := (nI_eq (b := 2) (by have := hst.1; simp only at this; omega) (by decide)).mp h90; subst hst2; exact ⟨rfl, nwd', njn', n, by rw [fsay_all hrs, show isSay pc k = true from isSay_iff.mpr ⟨n, hrs⟩]; rfl, fun _ => ⟨(pr_rs hrs).2.symm, hp⟩⟩)
      · -- not taken
        have hlt : k < N := by rw [hmp] at h16; exact lt_of_nge (by omega) h16
        refine g_iload_n 19 O dX6_readSaying_19 rfl 0 rfl ?_
        refine g_if_eq 20 O 74 dX6_readSaying_20 (by decide) (fun h20 => ?_) (fun h20 => ?_)
        · -- taken
          have hg0 : gg = 0 ∧ k < N ∧ sp (st, n) (pc k) = none := hg.resolve_left (fun q => by rw [q] at h20; exact absurd h20 (by decide))
          refine g_aload_n 74 O dX6_readSaying_74 rfl 3 rfl ?_
          refine g_iload_n 75 O dX6_readSaying_75 rfl 1 rfl ?_
          refine g_put 76 O inX6 tyX6_ok nmX6 (((mw, msd, mn, mon, mhn, mrd, mtn, mad, mpn), (se, wo, jf, ow, oj, kf, ff, vf, cf, tf, pb), (nI k, whl, nI n, nwd', njn'), (rd, so, vl, jg), tko, (sdn, hh_), (ik, kw, kh, kr, kt, kc, ko))) 0 rfl rfl 20 (by decide) kf_X6_84 rfl (rfl) (rfl) (Nat.le_of_ble_eq_true rfl) rfl dX6_readSaying_76 ?_
          refine g_aload_n 79 O dX6_readSaying_79 rfl 3 rfl ?_
          refine g_iload_n 80 O dX6_readSaying_80 rfl 1 rfl ?_
          refine g_aload_n 81 O dX6_readSaying_81 rfl 3 rfl ?_
          refine g_get 82 O (v := .int mpn) inX6 0 rfl rfl 18 (by decide) kf_X6_73 rfl dX6_readSaying_82 ?_
          refine g_icmp_ne 85 O 97 dX6_readSaying_85 (by decide) (fun h85 => ?_) (fun h85 => False.elim (absurd ((nI_eq (by omega) (by omega)).mp (h85.trans hmp)) (by have := hg0.2.1; omega)))
          refine g_iconst 97 O (v := 0) dX6_readSaying_97 (by decide) ?_
          refine g_put 98 O inX6 tyX6_ok nmX6 (((mw, msd, mn, mon, mhn, mrd, mtn, mad, mpn), (se, wo, jf, ow, oj, kf, ff, vf, cf, tf, pb), (nI k, 0, nI n, nwd', njn'), (rd, so, vl, jg), tko, (sdn, hh_), (ik, kw, kh, kr, kt, kc, ko))) 0 rfl rfl 21 (by decide) kf_X6_87 rfl (rfl) (rfl) (Nat.le_of_ble_eq_true rfl) rfl dX6_readSaying_98 ?_
          exact g_vret 101 O dX6_readSaying_101 (by rw [hP0]; exact ⟨rfl, nwd', njn', n, by rw [fsay_stop hrs hg0.2.2 hg0.2.1, isSay_n (by rw [fsay_stop hrs hg0.2.2 hg0.2.1]; omega)]; rfl, fun q => absurd q (by rw [isSay_n (by rw [fsay_stop hrs hg0.2.2 hg0.2.1]; omega)]; decide)⟩)
        · -- not taken
          have hg1 : gg = 1 := hg.elim id (fun q => absurd (by rw [q.1]; rfl) h20)
          refine g_aload_n 23 O dX6_readSaying_23 rfl 3 rfl ?_
          refine g_iload_n 24 O dX6_readSaying_24 rfl 2 rfl ?_
          refine g_aload_n 25 O dX6_readSaying_25 rfl 3 rfl ?_
          refine g_get 26 O (v := .ref (a 11)) inX6 0 rfl rfl 19 (by decide) kf_X6_40 rfl dX6_readSaying_26 ?_
          refine g_iload_n 29 O dX6_readSaying_29 rfl 1 rfl ?_
          refine g_bald 30 O 11 k rfl (rfl) (by omega) (by decide) dX6_readSaying_30 ?_
          refine g_si (pc k) (hpb k hlt) ?_
          refine g_callV 31 O (na := 2) (av := [.int (nI st), .int (pc k)]) (c_X6_nextState l E a mw msd mn mon mhn mrd mtn mad mpn se wo jf ow oj kf ff vf cf tf pb fat whl nwd' njn' rd so vl jg tko sdn hh_ ik kw kh kr kt kc ko (nI st) (pc k) st n rfl hst.1 hst.2.1 (rs_n1 hrs)) kl_X6_80 km_X6_nextState kv_X6_nextState ki_X6 kc_X6_nextState (by decide +kernel) rfl (Nat.le_of_ble_eq_true rfl) (Nat.le_of_ble_eq_true rfl) (fun _ h => h) 0 rfl rfl (fun s => s) (fun _ _ _ _ h => h) rfl (Nat.le_of_ble_eq_true rfl) dX6_readSaying_31 (fun v9 s9 hv9 => ?_)
          obtain ⟨r9, rfl, n2, w2, j2, rfl, hN⟩ := hv9
          rcases hN with ⟨hst2, hc, hr, hn2, hw2, hj2⟩ | ⟨hst2, hc, hr, hn2, hw2, hj2⟩ | ⟨hst0, hc, hr, hn2, hw2, hj2⟩ | ⟨hst2, hn0, hc, hr, hn2, hw2, hj2⟩ | ⟨hst2, hn0, hc, hr, hn2, hw2, hj2⟩
          · -- alt
            rw [hr, hn2, hw2, hj2]
            refine g_istore 34 O (lv' := [(4, .int 0), (3, .int (nI gg)), (2, .int (nI k)), (1, .int (nI st)), (0, .ref (a 0))]) dX6_readSaying_34 (by decide) rfl ?_
            refine g_iload 36 O dX6_readSaying_36 0 rfl ?_
            refine g_iconst 38 O (v := (-1)) dX6_readSaying_38 (by decide) ?_
            refine g_icmp_eq 39 O 46 dX6_readSaying_39 (by decide) (fun h39 => False.elim (absurd h39 (by decide))) (fun h39 => ?_)
            refine g_iconst 42 O (v := 1) dX6_readSaying_42 (by decide) ?_
            refine g_goto 43 O 47 dX6_readSaying_43 (by decide) ?_
            refine g_istore_n 47 O (lv' := [(3, .int 1), (4, .int 0), (2, .int (nI k)), (1, .int (nI st)), (0, .ref (a 0))]) dX6_readSaying_47 rfl (by decide) rfl ?_
            refine g_iload_n 48 O dX6_readSaying_48 rfl 0 rfl ?_
            refine g_if_eq 49 O 57 dX6_readSaying_49 (by decide) (fun h49 => False.elim (absurd h49 (by decide))) (fun h49 => ?_)
            refine g_iload 52 O dX6_readSaying_52 1 rfl ?_
            refine g_goto 54 O 58 dX6_readSaying_54 (by decide) ?_
            refine g_istore_n 58 O (lv' := [(1, .int 0), (3, .int 1), (4, .int 0), (2, .int (nI k)), (0, .ref (a 0))]) dX6_readSaying_58 rfl (by decide) rfl ?_
            refine g_iload_n 59 O dX6_readSaying_59 rfl 3 rfl ?_
            refine g_iload_n 60 O dX6_readSaying_60 rfl 1 rfl ?_
            refine g_if_eq 61 O 68 dX6_readSaying_61 (by decide) (fun h61 => False.elim (absurd h61 (by decide))) (fun h61 => ?_)
            refine g_iconst 64 O (v := 1) dX6_readSaying_64 (by decide) ?_
            refine g_goto 65 O 69 dX6_readSaying_65 (by decide) ?_
            refine g_iadd 69 O dX6_readSaying_69 ?_
            refine g_si (nI (k + 1)) (nI_1 k) ?_
            refine g_istore_n 70 O (lv' := [(2, .int (nI (k + 1))), (1, .int 0), (3, .int 1), (4, .int 0), (0, .ref (a 0))]) dX6_readSaying_70 rfl (by decide) rfl ?_
            refine g_goto 71 O 11 dX6_readSaying_71 (by decide) ?_
            refine g_sub [2, 0, 1, 4] (lv' := [(3, .int 1), (2, .int (nI (k + 1))), (1, .int 0), (0, .ref (a 0))]) rfl ?_
            exact ih11 (k + 1) 0 n 1 nwd' (upd njn' (n - 1) (bi (decide (pc k = 43)))) (by omega) (rs_go hrs (by rw [hst2]; exact sp2_j hc.1 hc.2)) (Or.inl rfl) (PRW_A hp hrs hst2) (by omega)
          · -- alt
            rw [hr, hn2, hw2, hj2]
            refine g_istore 34 O (lv' := [(4, .int ((-1))), (3, .int (nI gg)), (2, .int (nI k)), (1, .int (nI st)), (0, .ref (a 0))]) dX6_readSaying_34 (by decide) rfl ?_
            refine g_iload 36 O dX6_readSaying_36 0 rfl ?_
            refine g_iconst 38 O (v := (-1)) dX6_readSaying_38 (by decide) ?_
            refine g_icmp_eq 39 O 46 dX6_readSaying_39 (by decide) (fun h39 => ?_) (fun h39 => False.elim (absurd h39 (by decide)))
            refine g_iconst 46 O (v := 0) dX6_readSaying_46 (by decide) ?_
            refine g_istore_n 47 O (lv' := [(3, .int 0), (4, .int ((-1))), (2, .int (nI k)), (1, .int (nI st)), (0, .ref (a 0))]) dX6_readSaying_47 rfl (by decide) rfl ?_
            refine g_iload_n 48 O dX6_readSaying_48 rfl 0 rfl ?_
            refine g_if_eq 49 O 57 dX6_readSaying_49 (by decide) (fun h49 => ?_) (fun h49 => False.elim (absurd h49 (by decide)))
            refine g_iload_n 57 O dX6_readSaying_57 rfl 3 rfl ?_
            refine g_istore_n 58 O (lv' := [(1, .int (nI st)), (3, .int 0), (4, .int ((-1))), (2, .int (nI k)), (0, .ref (a 0))]) dX6_readSaying_58 rfl (by decide) rfl ?_
            refine g_iload_n 59 O dX6_readSaying_59 rfl 3 rfl ?_
            refine g_iload_n 60 O dX6_readSaying_60 rfl 1 rfl ?_
            refine g_if_eq 61 O 68 dX6_readSaying_61 (by decide) (fun h61 => ?_) (fun h61 => False.elim (absurd h61 (by decide)))
            refine g_iconst 68 O (v := 0) dX6_readSaying_68 (by decide) ?_
            refine g_iadd 69 O dX6_readSaying_69 ?_
            refine g_si (nI k) (Int32.add_zero _) ?_
            refine g_istore_n 70 O (lv' := [(2, .int (nI k)), (1, .int (nI st)), (3, .int 0), (4, .int ((-1))), (0, .ref (a 0))]) dX6_readSaying_70 rfl (by decide) rfl ?_
            refine g_goto 71 O 11 dX6_readSaying_71 (by decide) ?_
            refine g_sub [2, 0, 1, 4] (lv' := [(3, .int 0), (2, .int (nI k)), (1, .int (nI st)), (0, .ref (a 0))]) rfl ?_
            exact ih11 k st n 0 nwd' (upd njn' (n - 1) (bi (decide (pc k = 43)))) hk hrs (Or.inr ⟨rfl, hlt, by rw [hst2]; exact (Decidable.not_and_iff_or_not.mp hc).elim (fun q => sp2_x q) (fun q => sp2_y (by omega))⟩) (PRW_B hp hst2 _) (by omega)
          · -- alt
            rw [hr, hn2, hw2, hj2]
            refine g_istore 34 O (lv' := [(4, .int 1), (3, .int (nI gg)), (2, .int (nI k)), (1, .int (nI st)), (0, .ref (a 0))]) dX6_readSaying_34 (by decide) rfl ?_
            refine g_iload 36 O dX6_readSaying_36 0 rfl ?_
            refine g_iconst 38 O (v := (-1)) dX6_readSaying_38 (by decide) ?_
            refine g_icmp_eq 39 O 46 dX6_readSaying_39 (by decide) (fun h39 => False.elim (absurd h39 (by decide))) (fun h39 => ?_)
            refine g_iconst 42 O (v := 1) dX6_readSaying_42 (by decide) ?_
            refine g_goto 43 O 47 dX6_readSaying_43 (by decide) ?_
            refine g_istore_n 47 O (lv' := [(3, .int 1), (4, .int 1), (2, .int (nI k)), (1, .int (nI st)), (0, .ref (a 0))]) dX6_readSaying_47 rfl (by decide) rfl ?_
            refine g_iload_n 48 O dX6_readSaying_48 rfl 0 rfl ?_
            refine g_if_eq 49 O 57 dX6_readSaying_49 (by decide) (fun h49 => False.elim (absurd h49 (by decide))) (fun h49 => ?_)
            refine g_iload 52 O dX6_readSaying_52 1 rfl ?_
            refine g_goto 54 O 58 dX6_readSaying_54 (by decide) ?_
            refine g_istore_n 58 O (lv' := [(1, .int 1), (3, .int 1), (4, .int 1), (2, .int (nI k)), (0, .ref (a 0))]) dX6_readSaying_58 rfl (by decide) rfl ?_
            refine g_iload_n 59 O dX6_readSaying_59 rfl 3 rfl ?_
            refine g_iload_n 60 O dX6_readSaying_60 rfl 1 rfl ?_
            refine g_if_eq 61 O 68 dX6_readSaying_61 (by decide) (fun h61 => False.elim (absurd h61 (by decide))) (fun h61 => ?_)
            refine g_iconst 64 O (v := 1) dX6_readSaying_64 (by decide) ?_
            refine g_goto 65 O 69 dX6_readSaying_65 (by decide) ?_
            refine g_iadd 69 O dX6_readSaying_69 ?_
            refine g_si (nI (k + 1)) (nI_1 k) ?_
            refine g_istore_n 70 O (lv' := [(2, .int (nI (k + 1))), (1, .int 1), (3, .int 1), (4, .int 1), (0, .ref (a 0))]) dX6_readSaying_70 rfl (by decide) rfl ?_
            refine g_goto 71 O 11 dX6_readSaying_71 (by decide) ?_
            refine g_sub [2, 0, 1, 4] (lv' := [(3, .int 1), (2, .int (nI (k + 1))), (1, .int 1), (0, .ref (a 0))]) rfl ?_
            exact ih11 (k + 1) 1 n 1 nwd' njn' (by omega) (rs_go hrs (by rw [hst0]; exact sp0_n hc)) (Or.inl rfl) (PRW_C hp hrs hst0 hc) (by omega)
          · -- alt
            rw [hr, hn2, hw2, hj2]
            refine g_istore 34 O (lv' := [(4, .int 2), (3, .int (nI gg)), (2, .int (nI k)), (1, .int (nI st)), (0, .ref (a 0))]) dX6_readSaying_34 (by decide) rfl ?_
            refine g_iload 36 O dX6_readSaying_36 0 rfl ?_
            refine g_iconst 38 O (v := (-1)) dX6_readSaying_38 (by decide) ?_
            refine g_icmp_eq 39 O 46 dX6_readSaying_39 (by decide) (fun h39 => False.elim (absurd h39 (by decide))) (fun h39 => ?_)
            refine g_iconst 42 O (v := 1) dX6_readSaying_42 (by decide) ?_
            refine g_goto 43 O 47 dX6_readSaying_43 (by decide) ?_
            refine g_istore_n 47 O (lv' := [(3, .int 1), (4, .int 2), (2, .int (nI k)), (1, .int (nI st)), (0, .ref (a 0))]) dX6_readSaying_47 rfl (by decide) rfl ?_
            refine g_iload_n 48 O dX6_readSaying_48 rfl 0 rfl ?_
            refine g_if_eq 49 O 57 dX6_readSaying_49 (by decide) (fun h49 => False.elim (absurd h49 (by decide))) (fun h49 => ?_)
            refine g_iload 52 O dX6_readSaying_52 1 rfl ?_
            refine g_goto 54 O 58 dX6_readSaying_54 (by decide) ?_
            refine g_istore_n 58 O (lv' := [(1, .int 2), (3, .int 1), (4, .int 2), (2, .int (nI k)), (0, .ref (a 0))]) dX6_readSaying_58 rfl (by decide) rfl ?_
            refine g_iload_n 59 O dX6_readSaying_59 rfl 3 rfl ?_
            refine g_iload_n 60 O dX6_readSaying_60 rfl 1 rfl ?_
            refine g_if_eq 61 O 68 dX6_readSaying_61 (by decide) (fun h61 => False.elim (absurd h61 (by decide))) (fun h61 => ?_)
            refine g_iconst 64 O (v := 1) dX6_readSaying_64 (by decide) ?_
            refine g_goto 65 O 69 dX6_readSaying_65 (by decide) ?_
            refine g_iadd 69 O dX6_readSaying_69 ?_
            refine g_si (nI (k + 1)) (nI_1 k) ?_
            refine g_istore_n 70 O (lv' := [(2, .int (nI (k + 1))), (1, .int 2), (3, .int 1), (4, .int 2), (0, .ref (a 0))]) dX6_readSaying_70 rfl (by decide) rfl ?_
            refine g_goto 71 O 11 dX6_readSaying_71 (by decide) ?_
            refine g_sub [2, 0, 1, 4] (lv' := [(3, .int 1), (2, .int (nI (k + 1))), (1, .int 2), (0, .ref (a 0))]) rfl ?_
            exact ih11 (k + 1) 2 (n + 1) 1 (upd nwd' n (2 * (pc k - 97) + nI st)) njn' (by omega) (rs_go hrs (sp_l hst2 hst.1 hc)) (Or.inl rfl) (PRW_D hp hrs hst2 hc) (by omega)
          · -- alt
            rw [hr, hn2, hw2, hj2]
            refine g_istore 34 O (lv' := [(4, .int ((-1))), (3, .int (nI gg)), (2, .int (nI k)), (1, .int (nI st)), (0, .ref (a 0))]) dX6_readSaying_34 (by decide) rfl ?_
            refine g_iload 36 O dX6_readSaying_36 0 rfl ?_
            refine g_iconst 38 O (v := (-1)) dX6_readSaying_38 (by decide) ?_
            refine g_icmp_eq 39 O 46 dX6_readSaying_39 (by decide) (fun h39 => ?_) (fun h39 => False.elim (absurd h39 (by decide)))
            refine g_iconst 46 O (v := 0) dX6_readSaying_46 (by decide) ?_
            refine g_istore_n 47 O (lv' := [(3, .int 0), (4, .int ((-1))), (2, .int (nI k)), (1, .int (nI st)), (0, .ref (a 0))]) dX6_readSaying_47 rfl (by decide) rfl ?_
            refine g_iload_n 48 O dX6_readSaying_48 rfl 0 rfl ?_
            refine g_if_eq 49 O 57 dX6_readSaying_49 (by decide) (fun h49 => ?_) (fun h49 => False.elim (absurd h49 (by decide)))
            refine g_iload_n 57 O dX6_readSaying_57 rfl 3 rfl ?_
            refine g_istore_n 58 O (lv' := [(1, .int (nI st)), (3, .int 0), (4, .int ((-1))), (2, .int (nI k)), (0, .ref (a 0))]) dX6_readSaying_58 rfl (by decide) rfl ?_
            refine g_iload_n 59 O dX6_readSaying_59 rfl 3 rfl ?_
            refine g_iload_n 60 O dX6_readSaying_60 rfl 1 rfl ?_
            refine g_if_eq 61 O 68 dX6_readSaying_61 (by decide) (fun h61 => ?_) (fun h61 => False.elim (absurd h61 (by decide)))
            refine g_iconst 68 O (v := 0) dX6_readSaying_68 (by decide) ?_
            refine g_iadd 69 O dX6_readSaying_69 ?_
            refine g_si (nI k) (Int32.add_zero _) ?_
            refine g_istore_n 70 O (lv' := [(2, .int (nI k)), (1, .int (nI st)), (3, .int 0), (4, .int ((-1))), (0, .ref (a 0))]) dX6_readSaying_70 rfl (by decide) rfl ?_
            refine g_goto 71 O 11 dX6_readSaying_71 (by decide) ?_
            refine g_sub [2, 0, 1, 4] (lv' := [(3, .int 0), (2, .int (nI k)), (1, .int (nI st)), (0, .ref (a 0))]) rfl ?_
            exact ih11 k st n 0 nwd' njn' hk hrs (Or.inr ⟨rfl, hlt, sp_x hst2 hst.1 hn0 hc⟩) hp (by omega)
  exact L11 _ 0 0 0 1 nwd njn (Nat.zero_le _) rfl (Or.inl rfl) ⟨fun j h => absurd h (Nat.not_lt_zero _), fun j h => absurd h (by omega)⟩ (Nat.lt_succ_self _)

set_option maxRecDepth 100000 in
set_option maxHeartbeats 4000000 in
theorem c_X6_readSenses (l : Launch) (E : Ev) (a : Nat → Nat) (mw msd mn mon mhn mrd mtn mad mpn : Int32) (se wo jf ow oj kf ff vf cf tf pb : Nat → Int32) (fat whl nw : Int32) (nwd njn : Nat → Int32) (rd : Int32) (so vl : Nat → Int64) (jg : Nat → Int32) (tko : Nat → Int32) (sdn hh_ : Int64) (ik kw kh kr kt : Int32) (kc ko : Nat → Int32) (N : Nat) (pc : Nat → Int32) (hmp : mpn = nI N) (hN : N ≤ 14) (hpb : ∀ k, k < N → pb k = pc k) : Ctr l yX6_readSenses cX6_readSenses 2 none 1 22 E (wM E a) [.ref (a 0)] (((mw, msd, mn, mon, mhn, mrd, mtn, mad, mpn), (se, wo, jf, ow, oj, kf, ff, vf, cf, tf, pb), (fat, whl, nw, nwd, njn), (rd, so, vl, jg), tko, (sdn, hh_), (ik, kw, kh, kr, kt, kc, ko))) (fun v8 s8 => v8 = none ∧ s8 = ((mw, msd, mn, mon, mhn, mrd, mtn, mad, mpn), (se, wo, jf, ow, oj, kf, ff, vf, cf, tf, pb), (nI (fsen pc N), bi (isSen pc N), nw, nwd, njn), (rd, so, vl, jg), tko, (sdn, hh_), (ik, kw, kh, kr, kt, kc, ko))) := by
  refine Ctr.of' (by decide +kernel) (Nat.le_of_ble_eq_true rfl) (fun X P0 hP0 O => ?_)
  refine g_sub [0] (lv' := [(0, .ref (a 0))]) rfl ?_
  refine g_iconst 0 O (v := 0) dX6_readSenses_0 (by decide) ?_
  refine g_istore_n 1 O (lv' := [(1, .int 0), (0, .ref (a 0))]) dX6_readSenses_1 rfl (by decide) rfl ?_
  refine g_sub [0, 1] (lv' := [(1, .int 0), (0, .ref (a 0))]) rfl ?_
  have L2 : ∀ (fuel : Nat) (k : Nat) (hk : k ≤ N) (hgs : ∀ j, j < k → gse pc j = true), N - k < fuel → G l E (wM E a) P0 X 2 (((mw, msd, mn, mon, mhn, mrd, mtn, mad, mpn), (se, wo, jf, ow, oj, kf, ff, vf, cf, tf, pb), (fat, whl, nw, nwd, njn), (rd, so, vl, jg), tko, (sdn, hh_), (ik, kw, kh, kr, kt, kc, ko))) 2 [(1, .int (nI k)), (0, .ref (a 0))] [] := by
    intro fuel
    induction fuel with
    | zero => intro k hk hgs hfu; exact absurd hfu (Nat.not_lt_zero _)
    | succ fuel ih2 =>
      intro k hk hgs hfu
      refine g_iload_n 2 O dX6_readSenses_2 rfl 0 rfl ?_
      refine g_aload_n 3 O dX6_readSenses_3 rfl 1 rfl ?_
      refine g_get 4 O (v := .int mpn) inX6 0 rfl rfl 18 (by decide) kf_X6_73 rfl dX6_readSenses_4 ?_
      refine g_icmp_ge 7 O 38 dX6_readSenses_7 (by decide) (fun h7 => ?_) (fun h7 => ?_)
      · -- taken
        have e : k = N := by rw [hmp] at h7; have := ge_of_le (n := N) (by omega) (by omega) h7; omega
        refine g_aload_n 38 O dX6_readSenses_38 rfl 1 rfl ?_
        refine g_iload_n 39 O dX6_readSenses_39 rfl 0 rfl ?_
        refine g_put 40 O inX6 tyX6_ok nmX6 (((mw, msd, mn, mon, mhn, mrd, mtn, mad, mpn), (se, wo, jf, ow, oj, kf, ff, vf, cf, tf, pb), (nI k, whl, nw, nwd, njn), (rd, so, vl, jg), tko, (sdn, hh_), (ik, kw, kh, kr, kt, kc, ko))) 0 rfl rfl 20 (by decide) kf_X6_84 rfl (rfl) (rfl) (Nat.le_of_ble_eq_true rfl) rfl dX6_readSenses_40 ?_
        refine g_aload_n 43 O dX6_readSenses_43 rfl 1 rfl ?_
        refine g_iload_n 44 O dX6_readSenses_44 rfl 0 rfl ?_
        refine g_aload_n 45 O dX6_readSenses_45 rfl 1 rfl ?_
        refine g_get 46 O (v := .int mpn) inX6 0 rfl rfl 18 (by decide) kf_X6_73 rfl dX6_readSenses_46 ?_
        refine g_icmp_ne 49 O 62 dX6_readSenses_49 (by decide) (fun h49 => False.elim (h49 (by rw [e, hmp]))) (fun h49 => ?_)
        refine g_iload_n 52 O dX6_readSenses_52 rfl 0 rfl ?_
        refine g_bipush 53 O (v := 6) dX6_readSenses_53 (by decide) ?_
        refine g_icmp_ne 55 O 62 dX6_readSenses_55 (by decide) (fun h55 => ?_) (fun h55 => ?_)
        · -- taken
          refine g_iconst 62 O (v := 0) dX6_readSenses_62 (by decide) ?_
          refine g_put 63 O inX6 tyX6_ok nmX6 (((mw, msd, mn, mon, mhn, mrd, mtn, mad, mpn), (se, wo, jf, ow, oj, kf, ff, vf, cf, tf, pb), (nI k, 0, nw, nwd, njn), (rd, so, vl, jg), tko, (sdn, hh_), (ik, kw, kh, kr, kt, kc, ko))) 0 rfl rfl 21 (by decide) kf_X6_87 rfl (rfl) (rfl) (Nat.le_of_ble_eq_true rfl) rfl dX6_readSenses_63 ?_
          exact g_vret 66 O dX6_readSenses_66 (by have hf : fsen pc N = N := fp_all (p := gse pc) (n := N) (by rw [← e]; exact hgs); rw [hP0, hf, show isSen pc N = false from by rw [isSen, decide_eq_false (p := N = 6) (fun q => h55 (by rw [e, q]; rfl)), Bool.false_and]]; exact ⟨rfl, by rw [e]; rfl⟩)
        · -- not taken
          refine g_iconst 58 O (v := 1) dX6_readSenses_58 (by decide) ?_
          refine g_goto 59 O 63 dX6_readSenses_59 (by decide) ?_
          refine g_put 63 O inX6 tyX6_ok nmX6 (((mw, msd, mn, mon, mhn, mrd, mtn, mad, mpn), (se, wo, jf, ow, oj, kf, ff, vf, cf, tf, pb), (nI k, 1, nw, nwd, njn), (rd, so, vl, jg), tko, (sdn, hh_), (ik, kw, kh, kr, kt, kc, ko))) 0 rfl rfl 21 (by decide) kf_X6_87 rfl (rfl) (rfl) (Nat.le_of_ble_eq_true rfl) rfl dX6_readSenses_63 ?_
          exact g_vret 66 O dX6_readSenses_66 (by have hf : fsen pc N = N := fp_all (p := gse pc) (n := N) (by rw [← e]; exact hgs); rw [hP0, hf, show isSen pc N = true from by rw [isSen, hf, decide_eq_true (p := N = 6) (by have := (nI_eq (b := 6) (by omega) (by decide)).mp h55; omega), decide_eq_true (p := N = N) rfl, Bool.true_and]]; exact ⟨rfl, by rw [e]; rfl⟩)
      · -- not taken
        have hlt : k < N := by rw [hmp] at h7; exact lt_of_nge (by omega) h7
        refine g_iload_n 10 O dX6_readSenses_10 rfl 0 rfl ?_
        refine g_bipush 11 O (v := 6) dX6_readSenses_11 (by decide) ?_
        refine g_icmp_ge 13 O 38 dX6_readSenses_13 (by decide) (fun h13 => ?_) (fun h13 => ?_)
        · -- taken
          refine g_aload_n 38 O dX6_readSenses_38 rfl 1 rfl ?_
          refine g_iload_n 39 O dX6_readSenses_39 rfl 0 rfl ?_
          refine g_put 40 O inX6 tyX6_ok nmX6 (((mw, msd, mn, mon, mhn, mrd, mtn, mad, mpn), (se, wo, jf, ow, oj, kf, ff, vf, cf, tf, pb), (nI k, whl, nw, nwd, njn), (rd, so, vl, jg), tko, (sdn, hh_), (ik, kw, kh, kr, kt, kc, ko))) 0 rfl rfl 20 (by decide) kf_X6_84 rfl (rfl) (rfl) (Nat.le_of_ble_eq_true rfl) rfl dX6_readSenses_40 ?_
          refine g_aload_n 43 O dX6_readSenses_43 rfl 1 rfl ?_
          refine g_iload_n 44 O dX6_readSenses_44 rfl 0 rfl ?_
          refine g_aload_n 45 O dX6_readSenses_45 rfl 1 rfl ?_
          refine g_get 46 O (v := .int mpn) inX6 0 rfl rfl 18 (by decide) kf_X6_73 rfl dX6_readSenses_46 ?_
          refine g_icmp_ne 49 O 62 dX6_readSenses_49 (by decide) (fun h49 => ?_) (fun h49 => False.elim (absurd ((nI_eq (by omega) (by omega)).mp (h49.trans hmp)) (by omega)))
          refine g_iconst 62 O (v := 0) dX6_readSenses_62 (by decide) ?_
          refine g_put 63 O inX6 tyX6_ok nmX6 (((mw, msd, mn, mon, mhn, mrd, mtn, mad, mpn), (se, wo, jf, ow, oj, kf, ff, vf, cf, tf, pb), (nI k, 0, nw, nwd, njn), (rd, so, vl, jg), tko, (sdn, hh_), (ik, kw, kh, kr, kt, kc, ko))) 0 rfl rfl 21 (by decide) kf_X6_87 rfl (rfl) (rfl) (Nat.le_of_ble_eq_true rfl) rfl dX6_readSenses_63 ?_
          exact g_vret 66 O dX6_readSenses_66 (by have hf : fsen pc N = k := fp_stop hgs (gse_6 (ge_of_le (n := 6) (by omega) (by decide) h13)) (by omega) hlt; rw [hP0, hf, show isSen pc N = false from by rw [isSen, hf, decide_eq_false (p := k = N) (by omega), Bool.and_false]]; exact ⟨rfl, rfl⟩)
        · -- not taken
          refine g_aload_n 16 O dX6_readSenses_16 rfl 1 rfl ?_
          refine g_get 17 O (v := .ref (a 11)) inX6 0 rfl rfl 19 (by decide) kf_X6_40 rfl dX6_readSenses_17 ?_
          refine g_iload_n 20 O dX6_readSenses_20 rfl 0 rfl ?_
          refine g_bald 21 O 11 k rfl (rfl) (by omega) (by decide) dX6_readSenses_21 ?_
          refine g_si (pc k) (hpb k hlt) ?_
          refine g_bipush 22 O (v := 48) dX6_readSenses_22 (by decide) ?_
          refine g_bipush 24 O (v := 53) dX6_readSenses_24 (by decide) ?_
          refine g_callS 26 O (na := 3) (av := [.int (pc k), .int 48, .int 53]) (c_X6_within l E _ _ (pc k) 48 53) kl_X6_69 ks_X6_within ki_X6 kc_X6_within (by decide +kernel) rfl (Nat.le_of_ble_eq_true rfl) (Nat.le_of_ble_eq_true rfl) (fun _ h => h) (fun s => s) (fun _ _ _ _ h => h) rfl (Nat.le_of_ble_eq_true rfl) dX6_readSenses_26 (fun v9 s9 hv9 => ?_)
          obtain ⟨rfl, rfl⟩ := hv9
          refine g_if_eq 29 O 38 dX6_readSenses_29 (by decide) (fun h29 => ?_) (fun h29 => ?_)
          · -- taken
            refine g_aload_n 38 O dX6_readSenses_38 rfl 1 rfl ?_
            refine g_iload_n 39 O dX6_readSenses_39 rfl 0 rfl ?_
            refine g_put 40 O inX6 tyX6_ok nmX6 (((mw, msd, mn, mon, mhn, mrd, mtn, mad, mpn), (se, wo, jf, ow, oj, kf, ff, vf, cf, tf, pb), (nI k, whl, nw, nwd, njn), (rd, so, vl, jg), tko, (sdn, hh_), (ik, kw, kh, kr, kt, kc, ko))) 0 rfl rfl 20 (by decide) kf_X6_84 rfl (rfl) (rfl) (Nat.le_of_ble_eq_true rfl) rfl dX6_readSenses_40 ?_
            refine g_aload_n 43 O dX6_readSenses_43 rfl 1 rfl ?_
            refine g_iload_n 44 O dX6_readSenses_44 rfl 0 rfl ?_
            refine g_aload_n 45 O dX6_readSenses_45 rfl 1 rfl ?_
            refine g_get 46 O (v := .int mpn) inX6 0 rfl rfl 18 (by decide) kf_X6_73 rfl dX6_readSenses_46 ?_
            refine g_icmp_ne 49 O 62 dX6_readSenses_49 (by decide) (fun h49 => ?_) (fun h49 => False.elim (absurd ((nI_eq (by omega) (by omega)).mp (h49.trans hmp)) (by omega)))
            refine g_iconst 62 O (v := 0) dX6_readSenses_62 (by decide) ?_
            refine g_put 63 O inX6 tyX6_ok nmX6 (((mw, msd, mn, mon, mhn, mrd, mtn, mad, mpn), (se, wo, jf, ow, oj, kf, ff, vf, cf, tf, pb), (nI k, 0, nw, nwd, njn), (rd, so, vl, jg), tko, (sdn, hh_), (ik, kw, kh, kr, kt, kc, ko))) 0 rfl rfl 21 (by decide) kf_X6_87 rfl (rfl) (rfl) (Nat.le_of_ble_eq_true rfl) rfl dX6_readSenses_63 ?_
            exact g_vret 66 O dX6_readSenses_66 (by have hf : fsen pc N = k := fp_stop hgs (gse_x (ite_f h29)) (by omega) hlt; rw [hP0, hf, show isSen pc N = false from by rw [isSen, hf, decide_eq_false (p := k = N) (by omega), Bool.and_false]]; exact ⟨rfl, rfl⟩)
          · -- not taken
            refine g_iinc 32 O (v := nI (k + 1)) (q := 0) (lv' := [(1, .int (nI (k + 1))), (0, .ref (a 0))]) dX6_readSenses_32 rfl (nI_1 k) (by decide) rfl ?_
            refine g_goto 35 O 2 dX6_readSenses_35 (by decide) ?_
            refine g_sub [0, 1] (lv' := [(1, .int (nI (k + 1))), (0, .ref (a 0))]) rfl ?_
            exact ih2 (k + 1) (by omega) (fun j h => by
            rcases Nat.lt_or_ge j k with q | q
            · exact hgs j q
            · have e : j = k := by omega
              subst e; exact gse_t (lt_of_nge (n := 6) (by omega) h13) (ite_t h29)) (by omega)
  exact L2 _ 0 (Nat.zero_le _) (fun j h => absurd h (Nat.not_lt_zero _)) (Nat.lt_succ_self _)
