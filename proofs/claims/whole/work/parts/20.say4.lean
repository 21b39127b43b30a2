def WG (f : Nat → Int64) (i : Nat) (so : Int64) (wi na mo fe : Int32) : Prop := so = orN f i ∧ wi = nI (mx (fun r => pcn (f r)) i) ∧ na = nI (mn (fun r => pcn (f r)) i) ∧ ((i = 0 ∧ mo = -1 ∧ fe = 65) ∨ (0 < i ∧ mo = nI (pcn (f (mx (fun r => pcn (f r)) i))) ∧ fe = nI (pcn (f (mn (fun r => pcn (f r)) i)))))
theorem pcn_le (x : Int64) : pcn x ≤ 64 := cn_le _ _
theorem WG_hi {f : Nat → Int64} {i : Nat} {so : Int64} {wi na mo fe : Int32} (h : WG f i so wi na mo fe) (hc : ¬ nI (pcn (f i)) ≤ mo) : mx (fun r => pcn (f r)) (i + 1) = i := by
  rcases h.2.2.2 with ⟨rfl, -, -⟩ | ⟨-, e, -⟩
  · rw [mx]; split <;> rfl
  · rw [e] at hc
    have := pcn_le (f (mx (fun r => pcn (f r)) i))
    rw [mx, if_pos (lt_of_nge (by omega) (fun q => hc q))]
theorem WG_hn {f : Nat → Int64} {i : Nat} {so : Int64} {wi na mo fe : Int32} (h : WG f i so wi na mo fe) (hc : nI (pcn (f i)) ≤ mo) : 0 < i ∧ mx (fun r => pcn (f r)) (i + 1) = mx (fun r => pcn (f r)) i := by
  have h1 := pcn_le (f i)
  rcases h.2.2.2 with ⟨rfl, e, -⟩ | ⟨h0, e, -⟩
  · rw [e] at hc
    exact absurd (Int32.le_trans (nI_pos' (by omega)) hc) (by decide)
  · rw [e] at hc
    have := pcn_le (f (mx (fun r => pcn (f r)) i))
    have := ge_of_le (by omega) (by omega) hc
    exact ⟨h0, by rw [mx, if_neg (by omega)]⟩
theorem WG_lo {f : Nat → Int64} {i : Nat} {so : Int64} {wi na mo fe : Int32} (h : WG f i so wi na mo fe) (hc : ¬ fe ≤ nI (pcn (f i))) : mn (fun r => pcn (f r)) (i + 1) = i := by
  have h1 := pcn_le (f i)
  rcases h.2.2.2 with ⟨rfl, -, -⟩ | ⟨-, -, e⟩
  · rw [mn]; split <;> rfl
  · rw [e] at hc
    rw [mn, if_pos (lt_of_nge (by omega) (fun q => hc q))]
theorem WG_ln {f : Nat → Int64} {i : Nat} {so : Int64} {wi na mo fe : Int32} (h : WG f i so wi na mo fe) (hc : fe ≤ nI (pcn (f i))) : 0 < i ∧ mn (fun r => pcn (f r)) (i + 1) = mn (fun r => pcn (f r)) i := by
  have h1 := pcn_le (f i)
  rcases h.2.2.2 with ⟨rfl, -, e⟩ | ⟨h0, -, e⟩
  · rw [e] at hc
    have := ge_of_le (n := 65) (by omega) (by decide) hc
    omega
  · rw [e] at hc
    have := pcn_le (f (mn (fun r => pcn (f r)) i))
    have := ge_of_le (by omega) (by omega) hc
    exact ⟨h0, by rw [mn, if_neg (by omega)]⟩

set_option maxRecDepth 100000 in
set_option maxHeartbeats 4000000 in
theorem c_X3_weigh (l : Launch) (E : Ev) (a : Nat → Nat) (R : va_W) (wd rd wi na : Int32) (so : Int64) (lt ng pl : Nat → Int32) (t1 t2 tr : Nat → Int64) (N : Nat) (hrd : rd = nI N) (hN : N ≤ 640) : Ctr l yX3_weigh cX3_weigh 5 none 1 21 E (fun s => wS E a s ++ R) [.ref (a 0)] (((wd, rd, wi, na, so), lt, ng, pl, t1, t2, tr)) (fun v8 s8 => v8 = none ∧ s8 = ((wd, rd, nI (mx (fun r => pcn (tr r)) N), nI (mn (fun r => pcn (tr r)) N), orN tr N), lt, ng, pl, t1, t2, tr)) := by
  refine Ctr.of' (by decide +kernel) (Nat.le_of_ble_eq_true rfl) (fun X P0 hP0 O => ?_)
  refine g_sub [0] (lv' := [(0, .ref (a 0))]) rfl ?_
  refine g_aload_n 0 O dX3_weigh_0 rfl 0 rfl ?_
  refine g_lconst 1 O (v := 0) dX3_weigh_1 (by decide) ?_
  refine g_put 2 O inX3 tyX3_ok nmX3 (((wd, rd, wi, na, 0), lt, ng, pl, t1, t2, tr)) 0 rfl rfl 10 (by decide) kf_X3_108 rfl (rfl) (rfl) (Nat.le_of_ble_eq_true rfl) rfl dX3_weigh_2 ?_
  refine g_aload_n 5 O dX3_weigh_5 rfl 0 rfl ?_
  refine g_iconst 6 O (v := 0) dX3_weigh_6 (by decide) ?_
  refine g_put 7 O inX3 tyX3_ok nmX3 (((wd, rd, 0, na, 0), lt, ng, pl, t1, t2, tr)) 0 rfl rfl 8 (by decide) kf_X3_112 rfl (rfl) (rfl) (Nat.le_of_ble_eq_true rfl) rfl dX3_weigh_7 ?_
  refine g_aload_n 10 O dX3_weigh_10 rfl 0 rfl ?_
  refine g_iconst 11 O (v := 0) dX3_weigh_11 (by decide) ?_
  refine g_put 12 O inX3 tyX3_ok nmX3 (((wd, rd, 0, 0, 0), lt, ng, pl, t1, t2, tr)) 0 rfl rfl 9 (by decide) kf_X3_115 rfl (rfl) (rfl) (Nat.le_of_ble_eq_true rfl) rfl dX3_weigh_12 ?_
  refine g_iconst 15 O (v := (-1)) dX3_weigh_15 (by decide) ?_
  refine g_istore_n 16 O (lv' := [(1, .int ((-1))), (0, .ref (a 0))]) dX3_weigh_16 rfl (by decide) rfl ?_
  refine g_bipush 17 O (v := 65) dX3_weigh_17 (by decide) ?_
  refine g_istore_n 19 O (lv' := [(2, .int 65), (1, .int ((-1))), (0, .ref (a 0))]) dX3_weigh_19 rfl (by decide) rfl ?_
  refine g_iconst 20 O (v := 0) dX3_weigh_20 (by decide) ?_
  refine g_istore_n 21 O (lv' := [(3, .int 0), (2, .int 65), (1, .int ((-1))), (0, .ref (a 0))]) dX3_weigh_21 rfl (by decide) rfl ?_
  refine g_sub [0, 1, 2, 3] (lv' := [(3, .int 0), (2, .int 65), (1, .int ((-1))), (0, .ref (a 0))]) rfl ?_
  have L22 : ∀ (fuel : Nat) (i : Nat) (so' : Int64) (wi' na' mo fe : Int32) (hi : i ≤ N) (hW : WG tr i so' wi' na' mo fe), N - i < fuel → G l E (fun s => wS E a s ++ R) P0 X 5 (((wd, rd, wi', na', so'), lt, ng, pl, t1, t2, tr)) 22 [(3, .int (nI i)), (2, .int fe), (1, .int mo), (0, .ref (a 0))] [] := by
    intro fuel
    induction fuel with
    | zero => intro i so' wi' na' mo fe hi hW hfu; exact absurd hfu (Nat.not_lt_zero _)
    | succ fuel ih22 =>
      intro i so' wi' na' mo fe hi hW hfu
      refine g_iload_n 22 O dX3_weigh_22 rfl 0 rfl ?_
      refine g_aload_n 23 O dX3_weigh_23 rfl 3 rfl ?_
      refine g_get 24 O (v := .int rd) inX3 0 rfl rfl 7 (by decide) kf_X3_36 rfl dX3_weigh_24 ?_
      refine g_icmp_ge 27 O 99 dX3_weigh_27 (by decide) (fun h27 => ?_) (fun h27 => ?_)
      · -- taken
        have e : i = N := by rw [hrd] at h27; have := ge_of_le (by omega) (by omega) h27; omega
        subst e
        exact g_vret 99 O dX3_weigh_99 (by rw [hP0, ← hW.1, ← hW.2.1, ← hW.2.2.1]; exact ⟨rfl, rfl⟩)
      · -- not taken
        have hlt : i < N := by rw [hrd] at h27; exact lt_of_nge (by omega) h27
        refine g_iload_n 30 O dX3_weigh_30 rfl 0 rfl ?_
        refine g_aload_n 31 O dX3_weigh_31 rfl 3 rfl ?_
        refine g_get 32 O (v := .ref (a 6)) inX3 0 rfl rfl 5 (by decide) kf_X3_29 rfl dX3_weigh_32 ?_
        refine g_alen 35 O (v := 640) 6 2 rfl rfl rfl dX3_weigh_35 ?_
        refine g_icmp_ge 36 O 99 dX3_weigh_36 (by decide) (fun h36 => False.elim (absurd h36 (nI_ge (b := 640) (by omega) (by decide)))) (fun h36 => ?_)
        refine g_aload_n 39 O dX3_weigh_39 rfl 3 rfl ?_
        refine g_dup 40 O dX3_weigh_40 rfl ?_
        refine g_get 41 O (v := .long so') inX3 0 rfl rfl 10 (by decide) kf_X3_108 rfl dX3_weigh_41 ?_
        refine g_aload_n 44 O dX3_weigh_44 rfl 3 rfl ?_
        refine g_get 45 O (v := .ref (a 6)) inX3 0 rfl rfl 5 (by decide) kf_X3_29 rfl dX3_weigh_45 ?_
        refine g_iload_n 48 O dX3_weigh_48 rfl 0 rfl ?_
        refine g_lald 49 O 6 i rfl (rfl) (by omega) (by decide) dX3_weigh_49 ?_
        refine g_lor 50 O dX3_weigh_50 ?_
        refine g_put 51 O inX3 tyX3_ok nmX3 (((wd, rd, wi', na', so' ||| (tr i)), lt, ng, pl, t1, t2, tr)) 0 rfl rfl 10 (by decide) kf_X3_108 rfl (rfl) (rfl) (Nat.le_of_ble_eq_true rfl) rfl dX3_weigh_51 ?_
        refine g_aload_n 54 O dX3_weigh_54 rfl 3 rfl ?_
        refine g_get 55 O (v := .ref (a 6)) inX3 0 rfl rfl 5 (by decide) kf_X3_29 rfl dX3_weigh_55 ?_
        refine g_iload_n 58 O dX3_weigh_58 rfl 0 rfl ?_
        refine g_lald 59 O 6 i rfl (rfl) (by omega) (by decide) dX3_weigh_59 ?_
        refine g_callX 60 O (na := 1) (av := [.long (tr i)]) (c_J13_bitCount_95d88 l E _ _ (tr i)) kl_X3_118 ks_J13_bitCount_95d88 ki_J13 kc_J13_bitCount_95d88 (by decide +kernel) rfl (Nat.le_of_ble_eq_true rfl) (Nat.le_of_ble_eq_true rfl) (fun _ h => h) (fun s => s) (fun _ _ _ _ h => h) rfl (Nat.le_of_ble_eq_true rfl) dX3_weigh_60 (fun v9 s9 hv9 => ?_)
        obtain ⟨rfl, rfl⟩ := hv9
        refine g_istore 63 O (lv' := [(4, .int (nI (pcn (tr i)))), (3, .int (nI i)), (2, .int fe), (1, .int mo), (0, .ref (a 0))]) dX3_weigh_63 (by decide) rfl ?_
        refine g_iload 65 O dX3_weigh_65 0 rfl ?_
        refine g_iload_n 67 O dX3_weigh_67 rfl 3 rfl ?_
        refine g_icmp_le 68 O 79 dX3_weigh_68 (by decide) (fun h68 => ?_) (fun h68 => ?_)
        · -- taken
          refine g_iload 79 O dX3_weigh_79 0 rfl ?_
          refine g_iload_n 81 O dX3_weigh_81 rfl 2 rfl ?_
          refine g_icmp_ge 82 O 93 dX3_weigh_82 (by decide) (fun h82 => ?_) (fun h82 => ?_)
          · -- taken
            refine g_iinc 93 O (v := nI (i + 1)) (q := 1) (lv' := [(3, .int (nI (i + 1))), (4, .int (nI (pcn (tr i)))), (2, .int fe), (1, .int mo), (0, .ref (a 0))]) dX3_weigh_93 rfl (nI_1 i) (by decide) rfl ?_
            refine g_goto 96 O 22 dX3_weigh_96 (by decide) ?_
            refine g_sub [0, 2, 3, 4] (lv' := [(3, .int (nI (i + 1))), (2, .int fe), (1, .int mo), (0, .ref (a 0))]) rfl ?_
            exact ih22 (i + 1) (so' ||| tr i) wi' na' mo fe (by omega) ⟨by rw [hW.1]; rfl, by rw [(WG_hn hW h68).2]; exact hW.2.1, by rw [(WG_ln hW h82).2]; exact hW.2.2.1, Or.inr ⟨by omega, by rw [(WG_hn hW h68).2]; exact (hW.2.2.2.resolve_left (fun q => absurd q.1 (by have := (WG_hn hW h68).1; omega))).2.1, by rw [(WG_ln hW h82).2]; exact (hW.2.2.2.resolve_left (fun q => absurd q.1 (by have := (WG_ln hW h82).1; omega))).2.2⟩⟩ (by omega)
          · -- not taken
            refine g_iload 85 O dX3_weigh_85 0 rfl ?_
            refine g_istore_n 87 O (lv' := [(2, .int (nI (pcn (tr i)))), (4, .int (nI (pcn (tr i)))), (3, .int (nI i)), (1, .int mo), (0, .ref (a 0))]) dX3_weigh_87 rfl (by decide) rfl ?_
            refine g_aload_n 88 O dX3_weigh_88 rfl 4 rfl ?_
            refine g_iload_n 89 O dX3_weigh_89 rfl 2 rfl ?_
            refine g_put 90 O inX3 tyX3_ok nmX3 (((wd, rd, wi', nI i, so' ||| (tr i)), lt, ng, pl, t1, t2, tr)) 0 rfl rfl 9 (by decide) kf_X3_115 rfl (rfl) (rfl) (Nat.le_of_ble_eq_true rfl) rfl dX3_weigh_90 ?_
            refine g_iinc 93 O (v := nI (i + 1)) (q := 2) (lv' := [(3, .int (nI (i + 1))), (2, .int (nI (pcn (tr i)))), (4, .int (nI (pcn (tr i)))), (1, .int mo), (0, .ref (a 0))]) dX3_weigh_93 rfl (nI_1 i) (by decide) rfl ?_
            refine g_goto 96 O 22 dX3_weigh_96 (by decide) ?_
            refine g_sub [0, 1, 3, 4] (lv' := [(3, .int (nI (i + 1))), (2, .int (nI (pcn (tr i)))), (1, .int mo), (0, .ref (a 0))]) rfl ?_
            exact ih22 (i + 1) (so' ||| tr i) wi' (nI i) mo (nI (pcn (tr i))) (by omega) ⟨by rw [hW.1]; rfl, by rw [(WG_hn hW h68).2]; exact hW.2.1, by rw [WG_lo hW h82], Or.inr ⟨by omega, by rw [(WG_hn hW h68).2]; exact (hW.2.2.2.resolve_left (fun q => absurd q.1 (by have := (WG_hn hW h68).1; omega))).2.1, by rw [WG_lo hW h82]⟩⟩ (by omega)
        · -- not taken
          refine g_iload 71 O dX3_weigh_71 0 rfl ?_
          refine g_istore_n 73 O (lv' := [(1, .int (nI (pcn (tr i)))), (4, .int (nI (pcn (tr i)))), (3, .int (nI i)), (2, .int fe), (0, .ref (a 0))]) dX3_weigh_73 rfl (by decide) rfl ?_
          refine g_aload_n 74 O dX3_weigh_74 rfl 4 rfl ?_
          refine g_iload_n 75 O dX3_weigh_75 rfl 2 rfl ?_
          refine g_put 76 O inX3 tyX3_ok nmX3 (((wd, rd, nI i, na', so' ||| (tr i)), lt, ng, pl, t1, t2, tr)) 0 rfl rfl 8 (by decide) kf_X3_112 rfl (rfl) (rfl) (Nat.le_of_ble_eq_true rfl) rfl dX3_weigh_76 ?_
          refine g_iload 79 O dX3_weigh_79 1 rfl ?_
          refine g_iload_n 81 O dX3_weigh_81 rfl 3 rfl ?_
          refine g_icmp_ge 82 O 93 dX3_weigh_82 (by decide) (fun h82 => ?_) (fun h82 => ?_)
          · -- taken
            refine g_iinc 93 O (v := nI (i + 1)) (q := 2) (lv' := [(3, .int (nI (i + 1))), (1, .int (nI (pcn (tr i)))), (4, .int (nI (pcn (tr i)))), (2, .int fe), (0, .ref (a 0))]) dX3_weigh_93 rfl (nI_1 i) (by decide) rfl ?_
            refine g_goto 96 O 22 dX3_weigh_96 (by decide) ?_
            refine g_sub [0, 3, 1, 4] (lv' := [(3, .int (nI (i + 1))), (2, .int fe), (1, .int (nI (pcn (tr i)))), (0, .ref (a 0))]) rfl ?_
            exact ih22 (i + 1) (so' ||| tr i) (nI i) na' (nI (pcn (tr i))) fe (by omega) ⟨by rw [hW.1]; rfl, by rw [WG_hi hW h68], by rw [(WG_ln hW h82).2]; exact hW.2.2.1, Or.inr ⟨by omega, by rw [WG_hi hW h68], by rw [(WG_ln hW h82).2]; exact (hW.2.2.2.resolve_left (fun q => absurd q.1 (by have := (WG_ln hW h82).1; omega))).2.2⟩⟩ (by omega)
          · -- not taken
            refine g_iload 85 O dX3_weigh_85 1 rfl ?_
            refine g_istore_n 87 O (lv' := [(2, .int (nI (pcn (tr i)))), (1, .int (nI (pcn (tr i)))), (4, .int (nI (pcn (tr i)))), (3, .int (nI i)), (0, .ref (a 0))]) dX3_weigh_87 rfl (by decide) rfl ?_
            refine g_aload_n 88 O dX3_weigh_88 rfl 4 rfl ?_
            refine g_iload_n 89 O dX3_weigh_89 rfl 3 rfl ?_
            refine g_put 90 O inX3 tyX3_ok nmX3 (((wd, rd, nI i, nI i, so' ||| (tr i)), lt, ng, pl, t1, t2, tr)) 0 rfl rfl 9 (by decide) kf_X3_115 rfl (rfl) (rfl) (Nat.le_of_ble_eq_true rfl) rfl dX3_weigh_90 ?_
            refine g_iinc 93 O (v := nI (i + 1)) (q := 3) (lv' := [(3, .int (nI (i + 1))), (2, .int (nI (pcn (tr i)))), (1, .int (nI (pcn (tr i)))), (4, .int (nI (pcn (tr i)))), (0, .ref (a 0))]) dX3_weigh_93 rfl (nI_1 i) (by decide) rfl ?_
            refine g_goto 96 O 22 dX3_weigh_96 (by decide) ?_
            refine g_sub [0, 1, 2, 4] (lv' := [(3, .int (nI (i + 1))), (2, .int (nI (pcn (tr i)))), (1, .int (nI (pcn (tr i)))), (0, .ref (a 0))]) rfl ?_
            exact ih22 (i + 1) (so' ||| tr i) (nI i) (nI i) (nI (pcn (tr i))) (nI (pcn (tr i))) (by omega) ⟨by rw [hW.1]; rfl, by rw [WG_hi hW h68], by rw [WG_lo hW h82], Or.inr ⟨by omega, by rw [WG_hi hW h68], by rw [WG_lo hW h82]⟩⟩ (by omega)
  exact L22 _ 0 0 0 0 (-1) 65 (Nat.zero_le _) ⟨rfl, rfl, rfl, Or.inl ⟨rfl, rfl, rfl⟩⟩ (Nat.lt_succ_self _)

/-- all of a Saying, worked out -/
def SyA (s : Sc) (z : Nat → Nat) (y : Sy) : Prop := SyW s.1.1 s.2.1 s.2.2.1 s.2.2.2.1 y ∧ s.1.2.1 = nI (NR y) ∧ (∀ r, r < NR y → s.2.2.2.2.2.2 r = TR z y r) ∧ s.1.2.2.1 = nI (mx (fun r => pcn (TR z y r)) (NR y)) ∧ s.1.2.2.2.1 = nI (mn (fun r => pcn (TR z y r)) (NR y)) ∧ s.1.2.2.2.2 = orN (TR z y) (NR y)
theorem SyA_of {wd : Int32} {lt ng pl : Nat → Int32} {t1 t2 tr : Nat → Int64} {z : Nat → Nat} {y : Sy} (hy : SyW wd lt ng pl y) (h : ∀ r, r < NR y → tr r = TR z y r) : SyA ((wd, nI (NR y), nI (mx (fun r => pcn (tr r)) (NR y)), nI (mn (fun r => pcn (tr r)) (NR y)), orN tr (NR y)), lt, ng, pl, t1, t2, tr) z y :=
  ⟨hy, rfl, h, by rw [mx_cong (fun r hr => by rw [h r hr])], by rw [mn_cong (fun r hr => by rw [h r hr])], orN_cong h⟩

set_option maxRecDepth 100000 in
set_option maxHeartbeats 4000000 in
theorem c_X3_workOut (l : Launch) (E : Ev) (a : Nat → Nat) (b : Nat) (R : va_W) (sn : Nat → Int32) (wd rd wi na : Int32) (so : Int64) (lt ng pl : Nat → Int32) (t1 t2 tr : Nat → Int64) (y : Sy) (hy : SyW wd lt ng pl y) (z : Nat → Nat) (hz : SnW sn z) : Ctr l yX3_workOut cX3_workOut 2 none 4 106 E (fun s => wS E a s ++ ((b, .inl (E.cI, 6, .inl sn)) :: R)) [.ref (a 0), .ref b] (((wd, rd, wi, na, so), lt, ng, pl, t1, t2, tr)) (pV (fun s => SyA s z y)) := by
  refine Ctr.of' (by decide +kernel) (Nat.le_of_ble_eq_true rfl) (fun X P0 hP0 O => ?_)
  refine g_sub [0, 1] (lv' := [(0, .ref (a 0)), (1, .ref b)]) rfl ?_
  refine g_aload_n 0 O dX3_workOut_0 rfl 0 rfl ?_
  refine g_aload_n 1 O dX3_workOut_1 rfl 1 rfl ?_
  refine g_callV 2 O (na := 1) (av := [.ref b]) (c_X3_workOutReadings l E a b R sn wd rd wi na so lt ng pl t1 t2 tr y hy z hz) kl_X3_56 km_X3_workOutReadings kv_X3_workOutReadings ki_X3 kc_X3_workOutReadings (by decide +kernel) rfl (Nat.le_of_ble_eq_true rfl) (Nat.le_of_ble_eq_true rfl) (fun _ h => h) 0 rfl rfl (fun s => s) (fun _ _ _ _ h => h) rfl (Nat.le_of_ble_eq_true rfl) dX3_workOut_2 (fun v9 s9 hv9 => ?_)
  obtain ⟨rfl, t1', t2', tr', rfl, h12⟩ := hv9
  refine g_aload_n 5 O dX3_workOut_5 rfl 0 rfl ?_
  refine g_callV 6 O (na := 0) (av := []) (c_X3_weigh l E a ((b, .inl (E.cI, 6, .inl sn)) :: R) wd (nI (NR y)) wi na so lt ng pl t1' t2' tr' (NR y) rfl (NR_le hy.2.1)) kl_X3_60 km_X3_weigh kv_X3_weigh ki_X3 kc_X3_weigh (by decide +kernel) rfl (Nat.le_of_ble_eq_true rfl) (Nat.le_of_ble_eq_true rfl) (fun _ h => h) 0 rfl rfl (fun s => s) (fun _ _ _ _ h => h) rfl (Nat.le_of_ble_eq_true rfl) dX3_workOut_6 (fun v9 s9 hv9 => ?_)
  obtain ⟨rfl, rfl⟩ := hv9
  exact g_vret 9 O dX3_workOut_9 (by rw [hP0]; exact ⟨rfl, SyA_of hy h12⟩)

theorem bit64 {x : Int64} {k : Nat} (hk : k < 64) : ((x.toUInt64 >>> ((nI k).toInt64.toUInt64 &&& Int64.toUInt64 63)).toInt64 &&& 1).toInt32 = bi (tb x k) := by
  obtain ⟨n, hn, rfl⟩ := wb_of x
  rw [wb_bit hn hk, lN_i]
  unfold tb
  rw [wb_tb, BitVec.getLsbD_ofNat]
  simp only [hk, decide_true, Bool.true_and]
  rw [Nat.testBit_eq_decide_div_mod_eq]
  rcases Nat.mod_two_eq_zero_or_one (n / 2 ^ k) with q | q <;> rw [q] <;> rfl
theorem bi_add {p : Nat → Bool} {n : Nat} : nI (cn p n) + bi (p n) = nI (cn p (n + 1)) := by
  cases e : p n with
  | true => exact cn_t e
  | false => exact cn_f e
theorem cn_mono {p : Nat → Bool} : ∀ {m n : Nat}, m ≤ n → cn p m ≤ cn p n
  | m, 0, h => by have : m = 0 := by omega
                  subst this; exact Nat.le_refl _
  | m, n + 1, h => by
    rcases Nat.lt_or_ge n m with q | q
    · have : m = n + 1 := by omega
      subst this; exact Nat.le_refl _
    · have := cn_mono (p := p) q; rw [cn]; omega

set_option maxRecDepth 100000 in
set_option maxHeartbeats 4000000 in
theorem c_X3_readingsSoIn (l : Launch) (E : Ev) (a : Nat → Nat) (R : va_W) (wd rd wi na : Int32) (so : Int64) (lt ng pl : Nat → Int32) (t1 t2 tr : Nat → Int64) (p0 : Int32) (N u : Nat) (hrd : rd = nI N) (hN : N ≤ 640) (hp : p0 = nI u) (hu : u < 64) : Ctr l yX3_readingsSoIn cX3_readingsSoIn 4 (some .int) 1 22 E (fun s => wS E a s ++ R) [.ref (a 0), .int p0] (((wd, rd, wi, na, so), lt, ng, pl, t1, t2, tr)) (fun v8 s8 => v8 = some (.int (nI (cn (fun r => tb (tr r) u) N))) ∧ s8 = ((wd, rd, wi, na, so), lt, ng, pl, t1, t2, tr)) := by
  refine Ctr.of' (by decide +kernel) (Nat.le_of_ble_eq_true rfl) (fun X P0 hP0 O => ?_)
  refine g_sub [0, 1] (lv' := [(0, .ref (a 0)), (1, .int p0)]) rfl ?_
  refine g_iconst 0 O (v := 0) dX3_readingsSoIn_0 (by decide) ?_
  refine g_istore_n 1 O (lv' := [(2, .int 0), (0, .ref (a 0)), (1, .int p0)]) dX3_readingsSoIn_1 rfl (by decide) rfl ?_
  refine g_iconst 2 O (v := 0) dX3_readingsSoIn_2 (by decide) ?_
  refine g_istore_n 3 O (lv' := [(3, .int 0), (2, .int 0), (0, .ref (a 0)), (1, .int p0)]) dX3_readingsSoIn_3 rfl (by decide) rfl ?_
  refine g_sub [0, 1, 2, 3] (lv' := [(3, .int 0), (2, .int 0), (0, .ref (a 0)), (1, .int p0)]) rfl ?_
  have L4 : ∀ (fuel : Nat) (i : Nat) (hi : i ≤ N), N - i < fuel → G l E (fun s => wS E a s ++ R) P0 X 4 (((wd, rd, wi, na, so), lt, ng, pl, t1, t2, tr)) 4 [(3, .int (nI i)), (2, .int (nI (cn (fun r => tb (tr r) u) i))), (0, .ref (a 0)), (1, .int p0)] [] := by
    intro fuel
    induction fuel with
    | zero => intro i hi hfu; exact absurd hfu (Nat.not_lt_zero _)
    | succ fuel ih4 =>
      intro i hi hfu
      refine g_iload_n 4 O dX3_readingsSoIn_4 rfl 0 rfl ?_
      refine g_aload_n 5 O dX3_readingsSoIn_5 rfl 2 rfl ?_
      refine g_get 6 O (v := .int rd) inX3 0 rfl rfl 7 (by decide) kf_X3_36 rfl dX3_readingsSoIn_6 ?_
      refine g_icmp_ge 9 O 30 dX3_readingsSoIn_9 (by decide) (fun h9 => ?_) (fun h9 => ?_)
      · -- taken
        have e : i = N := by rw [hrd] at h9; have := ge_of_le (by omega) (by omega) h9; omega
        subst e
        refine g_iload_n 30 O dX3_readingsSoIn_30 rfl 1 rfl ?_
        exact g_iret 31 O dX3_readingsSoIn_31 (by rw [hP0]; exact ⟨rfl, rfl⟩)
      · -- not taken
        have hlt : i < N := by rw [hrd] at h9; exact lt_of_nge (by omega) h9
        refine g_iload_n 12 O dX3_readingsSoIn_12 rfl 1 rfl ?_
        refine g_aload_n 13 O dX3_readingsSoIn_13 rfl 2 rfl ?_
        refine g_iload_n 14 O dX3_readingsSoIn_14 rfl 0 rfl ?_
        refine g_callV 15 O (na := 1) (av := [.int (nI i)]) (c_X3_truth l E a R wd rd wi na so lt ng pl t1 t2 tr (nI i) N i hrd hN rfl hlt) kl_X3_124 km_X3_truth kv_X3_truth ki_X3 kc_X3_truth (by decide +kernel) rfl (Nat.le_of_ble_eq_true rfl) (Nat.le_of_ble_eq_true rfl) (fun _ h => h) 0 rfl rfl (fun s => s) (fun _ _ _ _ h => h) rfl (Nat.le_of_ble_eq_true rfl) dX3_readingsSoIn_15 (fun v9 s9 hv9 => ?_)
        obtain ⟨rfl, rfl⟩ := hv9
        refine g_iload_n 18 O dX3_readingsSoIn_18 rfl 3 rfl ?_
        refine g_callN 19 O (na := 2) (av := [.long (tr i), .int p0]) (c_X5_bitOf l E _ _ (tr i) p0) (fun _ h => h.2.2.2.2.2.2.2.2.2.2.2.2.2.2.2.1) ks_X5_bitOf ki_X5 kc_X5_bitOf (by decide +kernel) rfl (Nat.le_of_ble_eq_true rfl) (Nat.le_of_ble_eq_true rfl) (fun _ h => h) (fun s => s) (fun _ _ _ _ h => h) rfl (Nat.le_of_ble_eq_true rfl) dX3_readingsSoIn_19 (fun v9 s9 hv9 => ?_)
        obtain ⟨rfl, rfl⟩ := hv9
        refine g_si (bi (tb (tr i) u)) (by rw [hp]; exact bit64 hu) ?_
        refine g_iadd 22 O dX3_readingsSoIn_22 ?_
        refine g_si (nI (cn (fun r => tb (tr r) u) (i + 1))) (bi_add (p := fun r => tb (tr r) u)) ?_
        refine g_istore_n 23 O (lv' := [(2, .int (nI (cn (fun r => tb (tr r) u) (i + 1)))), (3, .int (nI i)), (0, .ref (a 0)), (1, .int p0)]) dX3_readingsSoIn_23 rfl (by decide) rfl ?_
        refine g_iinc 24 O (v := nI (i + 1)) (q := 1) (lv' := [(3, .int (nI (i + 1))), (2, .int (nI (cn (fun r => tb (tr r) u) (i + 1)))), (0, .ref (a 0)), (1, .int p0)]) dX3_readingsSoIn_24 rfl (nI_1 i) (by decide) rfl ?_
        refine g_goto 27 O 4 dX3_readingsSoIn_27 (by decide) ?_
        refine g_sub [0, 1, 2, 3] (lv' := [(3, .int (nI (i + 1))), (2, .int (nI (cn (fun r => tb (tr r) u) (i + 1)))), (0, .ref (a 0)), (1, .int p0)]) rfl ?_
        exact ih4 (i + 1) (by omega) (by omega)
  exact L4 _ 0 (Nat.zero_le _) (Nat.lt_succ_self _)

theorem bi_1 {b : Bool} (h : bi b = 1) : b = true := by
  cases b with
  | true => rfl
  | false => exact absurd h (by decide)
theorem bi_n1 {b : Bool} (h : ¬ bi b = 1) : b = false := by
  cases b with
  | false => rfl
  | true => exact absurd rfl h
theorem fi_at {p : Nat → Bool} {i n : Nat} (hf : ∀ j, j < i → p j = false) (hi : p i = true) (hn : i < n) : fi p n = nI i := by
  have e : fp (fun k => !p k) n = i := fp_stop (fun j hj => by simp [hf j hj]) (by simp [hi]) (Nat.le_of_lt hn) hn
  rw [fi, e, if_pos hn]
theorem fi_no {p : Nat → Bool} {n : Nat} (hf : ∀ j, j < n → p j = false) : fi p n = -1 := by
  have e : fp (fun k => !p k) n = n := fp_all (fun j hj => by simp [hf j hj])
  rw [fi, e, if_neg (Nat.lt_irrefl _)]

set_option maxRecDepth 100000 in
set_option maxHeartbeats 4000000 in
theorem c_X3_firstReadingSoIn (l : Launch) (E : Ev) (a : Nat → Nat) (R : va_W) (wd rd wi na : Int32) (so : Int64) (lt ng pl : Nat → Int32) (t1 t2 tr : Nat → Int64) (p0 : Int32) (N u : Nat) (hrd : rd = nI N) (hN : N ≤ 640) (hp : p0 = nI u) (hu : u < 64) : Ctr l yX3_firstReadingSoIn cX3_firstReadingSoIn 3 (some .int) 1 22 E (fun s => wS E a s ++ R) [.ref (a 0), .int p0] (((wd, rd, wi, na, so), lt, ng, pl, t1, t2, tr)) (fun v8 s8 => v8 = some (.int (fi (fun r => tb (tr r) u) N)) ∧ s8 = ((wd, rd, wi, na, so), lt, ng, pl, t1, t2, tr)) := by
  refine Ctr.of' (by decide +kernel) (Nat.le_of_ble_eq_true rfl) (fun X P0 hP0 O => ?_)
  refine g_sub [0, 1] (lv' := [(0, .ref (a 0)), (1, .int p0)]) rfl ?_
  refine g_iconst 0 O (v := 0) dX3_firstReadingSoIn_0 (by decide) ?_
  refine g_istore_n 1 O (lv' := [(2, .int 0), (0, .ref (a 0)), (1, .int p0)]) dX3_firstReadingSoIn_1 rfl (by decide) rfl ?_
  refine g_sub [0, 1, 2] (lv' := [(2, .int 0), (0, .ref (a 0)), (1, .int p0)]) rfl ?_
  have L2 : ∀ (fuel : Nat) (i : Nat) (hi : i ≤ N) (hf : ∀ j, j < i → tb (tr j) u = false), N - i < fuel → G l E (fun s => wS E a s ++ R) P0 X 3 (((wd, rd, wi, na, so), lt, ng, pl, t1, t2, tr)) 2 [(2, .int (nI i)), (0, .ref (a 0)), (1, .int p0)] [] := by
    intro fuel
    induction fuel with
    | zero => intro i hi hf hfu; exact absurd hfu (Nat.not_lt_zero _)
    | succ fuel ih2 =>
      intro i hi hf hfu
      refine g_iload_n 2 O dX3_firstReadingSoIn_2 rfl 0 rfl ?_
      refine g_aload_n 3 O dX3_firstReadingSoIn_3 rfl 1 rfl ?_
      refine g_get 4 O (v := .int rd) inX3 0 rfl rfl 7 (by decide) kf_X3_36 rfl dX3_firstReadingSoIn_4 ?_
      refine g_icmp_ge 7 O 31 dX3_firstReadingSoIn_7 (by decide) (fun h7 => ?_) (fun h7 => ?_)
      · -- taken
        have e : i = N := by rw [hrd] at h7; have := ge_of_le (by omega) (by omega) h7; omega
        subst e
        refine g_iconst 31 O (v := (-1)) dX3_firstReadingSoIn_31 (by decide) ?_
        exact g_iret 32 O dX3_firstReadingSoIn_32 (by rw [hP0, fi_no (p := fun r => tb (tr r) u) hf]; exact ⟨rfl, rfl⟩)
      · -- not taken
        have hlt : i < N := by rw [hrd] at h7; exact lt_of_nge (by omega) h7
        refine g_aload_n 10 O dX3_firstReadingSoIn_10 rfl 1 rfl ?_
        refine g_iload_n 11 O dX3_firstReadingSoIn_11 rfl 0 rfl ?_
        refine g_callV 12 O (na := 1) (av := [.int (nI i)]) (c_X3_truth l E a R wd rd wi na so lt ng pl t1 t2 tr (nI i) N i hrd hN rfl hlt) kl_X3_124 km_X3_truth kv_X3_truth ki_X3 kc_X3_truth (by decide +kernel) rfl (Nat.le_of_ble_eq_true rfl) (Nat.le_of_ble_eq_true rfl) (fun _ h => h) 0 rfl rfl (fun s => s) (fun _ _ _ _ h => h) rfl (Nat.le_of_ble_eq_true rfl) dX3_firstReadingSoIn_12 (fun v9 s9 hv9 => ?_)
        obtain ⟨rfl, rfl⟩ := hv9
        refine g_iload_n 15 O dX3_firstReadingSoIn_15 rfl 2 rfl ?_
        refine g_callN 16 O (na := 2) (av := [.long (tr i), .int p0]) (c_X5_bitOf l E _ _ (tr i) p0) (fun _ h => h.2.2.2.2.2.2.2.2.2.2.2.2.2.2.2.1) ks_X5_bitOf ki_X5 kc_X5_bitOf (by decide +kernel) rfl (Nat.le_of_ble_eq_true rfl) (Nat.le_of_ble_eq_true rfl) (fun _ h => h) (fun s => s) (fun _ _ _ _ h => h) rfl (Nat.le_of_ble_eq_true rfl) dX3_firstReadingSoIn_16 (fun v9 s9 hv9 => ?_)
        obtain ⟨rfl, rfl⟩ := hv9
        refine g_si (bi (tb (tr i) u)) (by rw [hp]; exact bit64 hu) ?_
        refine g_iconst 19 O (v := 1) dX3_firstReadingSoIn_19 (by decide) ?_
        refine g_icmp_ne 20 O 25 dX3_firstReadingSoIn_20 (by decide) (fun h20 => ?_) (fun h20 => ?_)
        · -- taken
          refine g_iinc 25 O (v := nI (i + 1)) (q := 0) (lv' := [(2, .int (nI (i + 1))), (0, .ref (a 0)), (1, .int p0)]) dX3_firstReadingSoIn_25 rfl (nI_1 i) (by decide) rfl ?_
          refine g_goto 28 O 2 dX3_firstReadingSoIn_28 (by decide) ?_
          refine g_sub [0, 1, 2] (lv' := [(2, .int (nI (i + 1))), (0, .ref (a 0)), (1, .int p0)]) rfl ?_
          exact ih2 (i + 1) (by omega) (fun j h => by
            rcases Nat.lt_or_ge j i with q | q
            · exact hf j q
            · have e : j = i := by omega
              subst e; exact bi_n1 h20) (by omega)
        · -- not taken
          refine g_iload_n 23 O dX3_firstReadingSoIn_23 rfl 0 rfl ?_
          exact g_iret 24 O dX3_firstReadingSoIn_24 (by rw [hP0, fi_at (p := fun r => tb (tr r) u) hf (bi_1 h20) hlt]; exact ⟨rfl, rfl⟩)
  exact L2 _ 0 (Nat.zero_le _) (fun j h => absurd h (Nat.not_lt_zero _)) (Nat.lt_succ_self _)
