theorem rwt_le {z : Nat → Nat} {y : Sy} {w : Nat} (h : y.1 < 4) (c : Nat) : rwt z y w c ≤ 640 := Nat.le_trans (cn_le _ _) (NR_le (y := yw y c) h)

set_option maxRecDepth 100000 in
set_option maxHeartbeats 4000000 in
theorem c_X5_add (l : Launch) (E : Ev) (a : Nat → Nat) (w rds sd ad : Int32) (pg : Pc) (sn : Nat → Int32) (s0 s1 s2 : Sc) (h : Hc) (t : Tc) (ik iw ir : Int32) (ih : Hc) (it : Tc) (p0 : Int32) (z : Nat → Nat) (y : Sy) (hs : SyA s0 z y) (hz : SnW sn z) (o : Sy) (ho : SyA s1 z o) (hr : Hr) (hh : HrW h hr) (tl : Tl) (ht : TlW t tl) (pn : Nat) (pc : Nat → Int32) (hpg : pg = (nI pn, pc)) (hpn : pn ≤ 14) (hpc : ∀ k, k < pn → 32 ≤ pc k ∧ pc k ≤ 126) (wn : Nat) (hw : w = nI wn) (hw0 : wn < 64) (adn : Nat) (had : ad = nI adn) (had60 : adn ≤ 60) (im : Bool × Nat × Int32 × Hr × Tl) (hi : RI (ik, iw, ir) ih it im) : Ctr l yX5_add cX5_add 6 (some .int) 5 129 E (wX E a) [.ref (a 0), .int p0] (((w, rds, sd, ad), pg, sn, s0, s1, s2, h, t, (ik, iw, ir), ih, it)) (pI (fun r x => r = A_add z y wn adn p0 ∧ RX x (NS_add ((wn, rds, sd, adn), (pn, pc), z, y, o, hr, tl, im) p0))) := by
  refine Ctr.of' (by decide +kernel) (Nat.le_of_ble_eq_true rfl) (fun X P0 hP0 O => ?_)
  refine g_sub [0, 1] (lv' := [(0, .ref (a 0)), (1, .int p0)]) rfl ?_
  refine g_iload_n 0 O dX5_add_0 rfl 1 rfl ?_
  refine g_if_lt 1 O 9 dX5_add_1 (by decide) (fun h1 => ?_) (fun h1 => ?_)
  · -- taken
    refine g_bipush 9 O (v := (-102)) dX5_add_9 (by decide) ?_
    exact g_iret 11 O dX5_add_11 (by rw [hP0]; exact ⟨_, rfl, by rw [A_add, if_neg (fun q => Int32.not_le.mpr h1 q.1)], by rw [NS_add, N_add, if_neg (fun q => (fun q => Int32.not_le.mpr h1 q.1) q.1)]; exact ⟨⟨⟨hw, hw0⟩, rfl, rfl, had, had60⟩, ⟨hpg, hpn, hpc⟩, hz, hs, ho, hh, ht, hi⟩⟩)
  · -- not taken
    refine g_iload_n 4 O dX5_add_4 rfl 1 rfl ?_
    refine g_iconst 5 O (v := 1) dX5_add_5 (by decide) ?_
    refine g_icmp_le 6 O 12 dX5_add_6 (by decide) (fun h6 => ?_) (fun h6 => ?_)
    · -- taken
      refine g_aload_n 12 O dX5_add_12 rfl 0 rfl ?_
      refine g_get 13 O (v := .ref (a 4)) inX5 0 rfl rfl 2 (by decide) kf_X5_23 rfl dX5_add_13 ?_
      refine g_callV 16 O (na := 0) (av := []) (c_X3_isNone l E (sh a 4) (r_s0 E a (w, rds, sd, ad) pg sn s1 s2 h t (ik, iw, ir) ih it) s0.1.1 s0.1.2.1 s0.1.2.2.1 s0.1.2.2.2.1 s0.1.2.2.2.2 s0.2.1 s0.2.2.1 s0.2.2.2.1 s0.2.2.2.2.1 s0.2.2.2.2.2.1 s0.2.2.2.2.2.2 ) kl_X5_121 km_X3_isNone kv_X3_isNone ki_X3 kc_X3_isNone (by decide +kernel) rfl (Nat.le_of_ble_eq_true rfl) (Nat.le_of_ble_eq_true rfl) (fun H9 h9 => to_s0 E a (w, rds, sd, ad) pg sn s0 s1 s2 h t (ik, iw, ir) ih it H9 h9) 0 rfl rfl (fun _ => ((w, rds, sd, ad), pg, sn, s0, s1, s2, h, t, (ik, iw, ir), ih, it)) (fun _ _ H9 hp h9 => by obtain ⟨-, rfl⟩ := hp; exact of_s0 E a (w, rds, sd, ad) pg sn s1 s2 h t (ik, iw, ir) ih it _ H9 h9) rfl (Nat.le_of_ble_eq_true rfl) dX5_add_16 (fun v9 s9 hv9 => ?_)
      obtain ⟨rfl, rfl⟩ := hv9
      refine g_if_ne 19 O 42 dX5_add_19 (by decide) (fun h19 => ?_) (fun h19 => ?_)
      · -- taken
        refine g_bipush 42 O (v := (-103)) dX5_add_42 (by decide) ?_
        exact g_iret 44 O dX5_add_44 (by rw [hP0]; exact ⟨_, rfl, by rw [A_add, if_pos ⟨Int32.not_lt.mp h1, h6⟩, if_neg (fun q => q.1 ((sy0 hs).mp (ite_t h19)))], by rw [NS_add, N_add, if_neg (fun q => (fun q => q.1 ((sy0 hs).mp (ite_t h19))) q.2)]; exact ⟨⟨⟨hw, hw0⟩, rfl, rfl, had, had60⟩, ⟨hpg, hpn, hpc⟩, hz, hs, ho, hh, ht, hi⟩⟩)
      · -- not taken
        have hy0 : ¬ y.1 = 0 := fun e => ite_f h19 ((sy0 hs).mpr e)
        have hy44 := hs.1.2.1
        refine g_aload_n 22 O dX5_add_22 rfl 0 rfl ?_
        refine g_get 23 O (v := .ref (a 4)) inX5 0 rfl rfl 2 (by decide) kf_X5_23 rfl dX5_add_23 ?_
        refine g_getN 26 O (v := .int s0.1.1) inX3 4 rfl rfl 6 (by decide) (fun _ h => h.2.2.1) rfl dX5_add_26 ?_
        refine g_iconst 29 O (v := 4) dX5_add_29 (by decide) ?_
        refine g_icmp_ge 30 O 42 dX5_add_30 (by decide) (fun h30 => ?_) (fun h30 => ?_)
        · -- taken
          have hnlt : ¬ y.1 < 4 := by rw [hs.1.1] at h30; have := ge_of_le (n := 4) (by omega) (by decide) h30; omega
          refine g_bipush 42 O (v := (-103)) dX5_add_42 (by decide) ?_
          exact g_iret 44 O dX5_add_44 (by rw [hP0]; exact ⟨_, rfl, by rw [A_add, if_pos ⟨Int32.not_lt.mp h1, h6⟩, if_neg (fun q => hnlt q.2.1)], by rw [NS_add, N_add, if_neg (fun q => (fun q => hnlt q.2.1) q.2)]; exact ⟨⟨⟨hw, hw0⟩, rfl, rfl, had, had60⟩, ⟨hpg, hpn, hpc⟩, hz, hs, ho, hh, ht, hi⟩⟩)
        · -- not taken
          have hy4 : y.1 < 4 := by rw [hs.1.1] at h30; exact lt_of_nge (n := 4) (by omega) h30
          refine g_aload_n 33 O dX5_add_33 rfl 0 rfl ?_
          refine g_get 34 O (v := .int ad) inX5 0 rfl rfl 11 (by decide) kf_X5_208 rfl dX5_add_34 ?_
          refine g_bipush 37 O (v := 60) dX5_add_37 (by decide) ?_
          refine g_icmp_lt 39 O 45 dX5_add_39 (by decide) (fun h39 => ?_) (fun h39 => ?_)
          · -- taken
            have ha60 : adn < 60 := by rw [had] at h39; exact (nI_ltI (b := 60) (by omega) (by decide)).mp h39
            refine g_aload_n 45 O dX5_add_45 rfl 0 rfl ?_
            refine g_dup 46 O dX5_add_46 rfl ?_
            refine g_get 47 O (v := .int ad) inX5 0 rfl rfl 11 (by decide) kf_X5_208 rfl dX5_add_47 ?_
            refine g_iconst 50 O (v := 1) dX5_add_50 (by decide) ?_
            refine g_iadd 51 O dX5_add_51 ?_
            refine g_si (nI (adn + 1)) (by rw [had]; exact nI_1 adn) ?_
            have hc4 : ¬ y.1 = 0 ∧ y.1 < 4 ∧ adn < 60 := ⟨hy0, hy4, ha60⟩
            refine g_put 52 O inX5 tyX5_ok nmX5 (((w, rds, sd, nI (adn + 1)), pg, sn, s0, s1, s2, h, t, (ik, iw, ir), ih, it)) 0 rfl rfl 11 (by decide) kf_X5_208 rfl (rfl) (rfl) (Nat.le_of_ble_eq_true rfl) rfl dX5_add_52 ?_
            refine g_iconst 55 O (v := 0) dX5_add_55 (by decide) ?_
            refine g_si (nI (mx (rwt z y wn) 1)) (by rw [mx_1]; rfl) ?_
            refine g_istore_n 56 O (lv' := [(2, .int (nI (mx (rwt z y wn) 1))), (0, .ref (a 0)), (1, .int p0)]) dX5_add_56 rfl (by decide) rfl ?_
            refine g_aload_n 57 O dX5_add_57 rfl 1 rfl ?_
            refine g_iconst 58 O (v := 0) dX5_add_58 (by decide) ?_
            refine g_callV 59 O (na := 1) (av := [.int 0]) (c_X5_readingsWith l E a w rds sd (nI (adn + 1)) pg sn s0 s1 s2 h t ik iw ir ih it 0 z y hs hz hy4 0 rfl (by omega) wn hw hw0) kl_X5_211 km_X5_readingsWith kv_X5_readingsWith ki_X5 kc_X5_readingsWith (by decide +kernel) rfl (Nat.le_of_ble_eq_true rfl) (Nat.le_of_ble_eq_true rfl) (fun _ h => h) 0 rfl rfl (fun s => s) (fun _ _ _ _ h => h) rfl (Nat.le_of_ble_eq_true rfl) dX5_add_59 (fun v9 s9 hv9 => ?_)
            obtain ⟨r9, rfl, rfl, s2b, rfl⟩ := hv9
            refine g_si (nI (rwt z y wn (mx (rwt z y wn) 1))) (by rw [mx_1]) ?_
            refine g_istore_n 62 O (lv' := [(3, .int (nI (rwt z y wn (mx (rwt z y wn) 1)))), (2, .int (nI (mx (rwt z y wn) 1))), (0, .ref (a 0)), (1, .int p0)]) dX5_add_62 rfl (by decide) rfl ?_
            refine g_iconst 63 O (v := 1) dX5_add_63 (by decide) ?_
            refine g_si (nI 1) (rfl) ?_
            refine g_istore 64 O (lv' := [(4, .int (nI 1)), (3, .int (nI (rwt z y wn (mx (rwt z y wn) 1)))), (2, .int (nI (mx (rwt z y wn) 1))), (0, .ref (a 0)), (1, .int p0)]) dX5_add_64 (by decide) rfl ?_
            refine g_sub [0, 1, 2, 3, 4] (lv' := [(4, .int (nI 1)), (3, .int (nI (rwt z y wn (mx (rwt z y wn) 1)))), (2, .int (nI (mx (rwt z y wn) 1))), (0, .ref (a 0)), (1, .int p0)]) rfl ?_
            have L66 : ∀ (fuel : Nat) (i : Nat) (s2' : Sc) (h1i : 1 ≤ i) (hi24 : i ≤ 24), 24 - i < fuel → G l E (wX E a) P0 X 6 (((w, rds, sd, nI (adn + 1)), pg, sn, s0, s1, s2', h, t, (ik, iw, ir), ih, it)) 66 [(4, .int (nI i)), (3, .int (nI (rwt z y wn (mx (rwt z y wn) i)))), (2, .int (nI (mx (rwt z y wn) i))), (0, .ref (a 0)), (1, .int p0)] [] := by
              intro fuel
              induction fuel with
              | zero => intro i s2' h1i hi24 hfu; exact absurd hfu (Nat.not_lt_zero _)
              | succ fuel ih66 =>
                intro i s2' h1i hi24 hfu
                refine g_iload 66 O dX5_add_66 0 rfl ?_
                refine g_bipush 68 O (v := 24) dX5_add_68 (by decide) ?_
                refine g_icmp_ge 70 O 99 dX5_add_70 (by decide) (fun h70 => ?_) (fun h70 => ?_)
                · -- taken
                  have e : i = 24 := by have := ge_of_le (n := 24) (by omega) (by decide) h70; omega
                  refine g_iload_n 99 O dX5_add_99 rfl 4 rfl ?_
                  refine g_if_ne 100 O 107 dX5_add_100 (by decide) (fun h100 => ?_) (fun h100 => ?_)
                  · -- taken
                    refine g_iload_n 107 O dX5_add_107 rfl 1 rfl ?_
                    exact g_iret 108 O dX5_add_108 (by subst e; rw [hP0]; exact ⟨_, rfl, by rw [A_add, if_pos ⟨Int32.not_lt.mp h1, h6⟩, if_pos hc4, if_neg h100], by rw [NS_add, N_add, if_pos ⟨⟨Int32.not_lt.mp h1, h6⟩, hc4⟩]; exact ⟨⟨⟨hw, hw0⟩, rfl, rfl, rfl, ha60⟩, ⟨hpg, hpn, hpc⟩, hz, hs, ho, hh, ht, hi⟩⟩)
                  · -- not taken
                    refine g_iload_n 103 O dX5_add_103 rfl 2 rfl ?_
                    refine g_goto 104 O 108 dX5_add_104 (by decide) ?_
                    exact g_iret 108 O dX5_add_108 (by subst e; rw [hP0]; exact ⟨_, rfl, by rw [A_add, if_pos ⟨Int32.not_lt.mp h1, h6⟩, if_pos hc4, if_pos h100], by rw [NS_add, N_add, if_pos ⟨⟨Int32.not_lt.mp h1, h6⟩, hc4⟩]; exact ⟨⟨⟨hw, hw0⟩, rfl, rfl, rfl, ha60⟩, ⟨hpg, hpn, hpc⟩, hz, hs, ho, hh, ht, hi⟩⟩)
                · -- not taken
                  have hlt : i < 24 := lt_of_nge (n := 24) (by omega) h70
                  refine g_aload_n 73 O dX5_add_73 rfl 3 rfl ?_
                  refine g_iload 74 O dX5_add_74 0 rfl ?_
                  refine g_callV 76 O (na := 1) (av := [.int (nI i)]) (c_X5_readingsWith l E a w rds sd (nI (adn + 1)) pg sn s0 s1 s2' h t ik iw ir ih it (nI i) z y hs hz hy4 i rfl (by omega) wn hw hw0) kl_X5_211 km_X5_readingsWith kv_X5_readingsWith ki_X5 kc_X5_readingsWith (by decide +kernel) rfl (Nat.le_of_ble_eq_true rfl) (Nat.le_of_ble_eq_true rfl) (fun _ h => h) 0 rfl rfl (fun s => s) (fun _ _ _ _ h => h) rfl (Nat.le_of_ble_eq_true rfl) dX5_add_76 (fun v9 s9 hv9 => ?_)
                  obtain ⟨r9, rfl, rfl, s2b, rfl⟩ := hv9
                  refine g_istore 79 O (lv' := [(5, .int (nI (rwt z y wn i))), (4, .int (nI i)), (3, .int (nI (rwt z y wn (mx (rwt z y wn) i)))), (2, .int (nI (mx (rwt z y wn) i))), (0, .ref (a 0)), (1, .int p0)]) dX5_add_79 (by decide) rfl ?_
                  refine g_iload 81 O dX5_add_81 0 rfl ?_
                  refine g_iload_n 83 O dX5_add_83 rfl 2 rfl ?_
                  refine g_icmp_le 84 O 93 dX5_add_84 (by decide) (fun h84 => ?_) (fun h84 => ?_)
                  · -- taken
                    have em : mx (rwt z y wn) (i + 1) = mx (rwt z y wn) i := by rw [mx, if_neg]; have := ge_of_le (by have := rwt_le (z := z) (w := wn) hy4 (mx (rwt z y wn) i); omega) (by have := rwt_le (z := z) (w := wn) hy4 i; omega) h84; omega
                    rw [show (nI (mx (rwt z y wn) i) : Int32) = nI (mx (rwt z y wn) (i + 1)) from by rw [em]]
                    rw [show (nI (rwt z y wn (mx (rwt z y wn) i)) : Int32) = nI (rwt z y wn (mx (rwt z y wn) (i + 1))) from by rw [em]]
                    refine g_iinc 93 O (v := nI (i + 1)) (q := 1) (lv' := [(4, .int (nI (i + 1))), (5, .int (nI (rwt z y wn i))), (3, .int (nI (rwt z y wn (mx (rwt z y wn) (i + 1))))), (2, .int (nI (mx (rwt z y wn) (i + 1)))), (0, .ref (a 0)), (1, .int p0)]) dX5_add_93 rfl (nI_1 i) (by decide) rfl ?_
                    refine g_goto 96 O 66 dX5_add_96 (by decide) ?_
                    refine g_sub [0, 2, 3, 4, 5] (lv' := [(4, .int (nI (i + 1))), (3, .int (nI (rwt z y wn (mx (rwt z y wn) (i + 1))))), (2, .int (nI (mx (rwt z y wn) (i + 1)))), (0, .ref (a 0)), (1, .int p0)]) rfl ?_
                    exact ih66 (i + 1) s2b (by omega) (by omega) (by omega)
                  · -- not taken
                    have em : mx (rwt z y wn) (i + 1) = i := by rw [mx, if_pos]; exact lt_of_nge (by have := rwt_le (z := z) (w := wn) hy4 (mx (rwt z y wn) i); omega) h84
                    refine g_iload 87 O dX5_add_87 0 rfl ?_
                    refine g_si (nI (rwt z y wn (mx (rwt z y wn) (i + 1)))) (by rw [em]) ?_
                    refine g_istore_n 89 O (lv' := [(3, .int (nI (rwt z y wn (mx (rwt z y wn) (i + 1))))), (5, .int (nI (rwt z y wn i))), (4, .int (nI i)), (2, .int (nI (mx (rwt z y wn) i))), (0, .ref (a 0)), (1, .int p0)]) dX5_add_89 rfl (by decide) rfl ?_
                    refine g_iload 90 O dX5_add_90 2 rfl ?_
                    refine g_si (nI (mx (rwt z y wn) (i + 1))) (by rw [em]) ?_
                    refine g_istore_n 92 O (lv' := [(2, .int (nI (mx (rwt z y wn) (i + 1)))), (3, .int (nI (rwt z y wn (mx (rwt z y wn) (i + 1))))), (5, .int (nI (rwt z y wn i))), (4, .int (nI i)), (0, .ref (a 0)), (1, .int p0)]) dX5_add_92 rfl (by decide) rfl ?_
                    refine g_iinc 93 O (v := nI (i + 1)) (q := 3) (lv' := [(4, .int (nI (i + 1))), (2, .int (nI (mx (rwt z y wn) (i + 1)))), (3, .int (nI (rwt z y wn (mx (rwt z y wn) (i + 1))))), (5, .int (nI (rwt z y wn i))), (0, .ref (a 0)), (1, .int p0)]) dX5_add_93 rfl (nI_1 i) (by decide) rfl ?_
                    refine g_goto 96 O 66 dX5_add_96 (by decide) ?_
                    refine g_sub [0, 2, 1, 4, 5] (lv' := [(4, .int (nI (i + 1))), (3, .int (nI (rwt z y wn (mx (rwt z y wn) (i + 1))))), (2, .int (nI (mx (rwt z y wn) (i + 1)))), (0, .ref (a 0)), (1, .int p0)]) rfl ?_
                    exact ih66 (i + 1) s2b (by omega) (by omega) (by omega)
            exact L66 _ 1 s2b (Nat.le_refl _) (by decide) (Nat.lt_succ_self _)
          · -- not taken
            rw [had] at h39
            refine g_bipush 42 O (v := (-103)) dX5_add_42 (by decide) ?_
            exact g_iret 44 O dX5_add_44 (by rw [hP0]; exact ⟨_, rfl, by rw [A_add, if_pos ⟨Int32.not_lt.mp h1, h6⟩, if_neg (fun q => h39 (nI_lt (b := 60) q.2.2 (by decide)))], by rw [NS_add, N_add, if_neg (fun q => (fun q => h39 (nI_lt (b := 60) q.2.2 (by decide))) q.2)]; exact ⟨⟨⟨hw, hw0⟩, rfl, rfl, had, had60⟩, ⟨hpg, hpn, hpc⟩, hz, hs, ho, hh, ht, hi⟩⟩)
    · -- not taken
      refine g_bipush 9 O (v := (-102)) dX5_add_9 (by decide) ?_
      exact g_iret 11 O dX5_add_11 (by rw [hP0]; exact ⟨_, rfl, by rw [A_add, if_neg (fun q => h6 q.2)], by rw [NS_add, N_add, if_neg (fun q => (fun q => h6 q.2) q.1)]; exact ⟨⟨⟨hw, hw0⟩, rfl, rfl, had, had60⟩, ⟨hpg, hpn, hpc⟩, hz, hs, ho, hh, ht, hi⟩⟩)

set_option maxRecDepth 100000 in
set_option maxHeartbeats 4000000 in
theorem c_X5_tell (l : Launch) (E : Ev) (a : Nat → Nat) (w rds sd ad : Int32) (pg : Pc) (sn : Nat → Int32) (s0 s1 s2 : Sc) (h : Hc) (t : Tc) (ik iw ir : Int32) (ih : Hc) (it : Tc) (p0 : Int32) (z : Nat → Nat) (y : Sy) (hs : SyA s0 z y) (hz : SnW sn z) (o : Sy) (ho : SyA s1 z o) (hr : Hr) (hh : HrW h hr) (tl : Tl) (ht : TlW t tl) (pn : Nat) (pc : Nat → Int32) (hpg : pg = (nI pn, pc)) (hpn : pn ≤ 14) (hpc : ∀ k, k < pn → 32 ≤ pc k ∧ pc k ≤ 126) (wn : Nat) (hw : w = nI wn) (hw0 : wn < 64) (adn : Nat) (had : ad = nI adn) (had60 : adn ≤ 60) (im : Bool × Nat × Int32 × Hr × Tl) (hi : RI (ik, iw, ir) ih it im) : Ctr l yX5_tell cX5_tell 3 (some .int) 1 21 E (wX E a) [.ref (a 0), .int p0] (((w, rds, sd, ad), pg, sn, s0, s1, s2, h, t, (ik, iw, ir), ih, it)) (pI (fun r x => r = A_tell tl p0 ∧ RX x (NS_tell ((wn, rds, sd, adn), (pn, pc), z, y, o, hr, tl, im) p0))) := by
  refine Ctr.of' (by decide +kernel) (Nat.le_of_ble_eq_true rfl) (fun X P0 hP0 O => ?_)
  refine g_sub [0, 1] (lv' := [(0, .ref (a 0)), (1, .int p0)]) rfl ?_
  refine g_iload_n 0 O dX5_tell_0 rfl 1 rfl ?_
  refine g_callS 1 O (na := 1) (av := [.int p0]) (c_X5_isWorld l E _ _ p0) kl_X5_114 ks_X5_isWorld ki_X5 kc_X5_isWorld (by decide +kernel) rfl (Nat.le_of_ble_eq_true rfl) (Nat.le_of_ble_eq_true rfl) (fun _ h => h) (fun s => s) (fun _ _ _ _ h => h) rfl (Nat.le_of_ble_eq_true rfl) dX5_tell_1 (fun v9 s9 hv9 => ?_)
  obtain ⟨rfl, rfl⟩ := hv9
  refine g_if_ne 4 O 10 dX5_tell_4 (by decide) (fun h4 => ?_) (fun h4 => ?_)
  · -- taken
    obtain ⟨u, hu0, hu, huc⟩ := rng_of (n := 64) (by decide) (ite_t h4)
    refine g_aload_n 10 O dX5_tell_10 rfl 0 rfl ?_
    refine g_get 11 O (v := .ref (a 30)) inX5 0 rfl rfl 6 (by decide) kf_X5_43 rfl dX5_tell_11 ?_
    refine g_getN 14 O (v := .int t.1) inX4 30 rfl rfl 1 (by decide) (fun _ h => h.2.2.2.2.2.2.2.2.1) rfl dX5_tell_14 ?_
    refine g_istore_n 17 O (lv' := [(2, .int t.1), (0, .ref (a 0)), (1, .int p0)]) dX5_tell_17 rfl (by decide) rfl ?_
    refine g_aload_n 18 O dX5_tell_18 rfl 1 rfl ?_
    refine g_get 19 O (v := .ref (a 30)) inX5 0 rfl rfl 6 (by decide) kf_X5_43 rfl dX5_tell_19 ?_
    refine g_iconst 22 O (v := 0) dX5_tell_22 (by decide) ?_
    refine g_putN 23 O inX4 tyX4_ok nmX4 (((w, rds, sd, ad), pg, sn, s0, s1, s2, h, (0, t.2), (ik, iw, ir), ih, it)) 30 rfl rfl 1 (by decide) (fun _ h => h.2.2.2.2.2.2.2.2.1) rfl (rfl) (rfl) (Nat.le_of_ble_eq_true rfl) rfl dX5_tell_23 ?_
    refine g_aload_n 26 O dX5_tell_26 rfl 1 rfl ?_
    refine g_get 27 O (v := .ref (a 30)) inX5 0 rfl rfl 6 (by decide) kf_X5_43 rfl dX5_tell_27 ?_
    refine g_iload_n 30 O dX5_tell_30 rfl 2 rfl ?_
    refine g_callV 31 O (na := 1) (av := [.int p0]) (c_X4_append l E (sh a 30) (r_t E a (w, rds, sd, ad) pg sn s0 s1 s2 h (ik, iw, ir) ih it) 0 t.2 p0 0 rfl (by decide)) kl_X5_215 km_X4_append kv_X4_append ki_X4 kc_X4_append (by decide +kernel) rfl (Nat.le_of_ble_eq_true rfl) (Nat.le_of_ble_eq_true rfl) (fun H9 h9 => to_t E a (w, rds, sd, ad) pg sn s0 s1 s2 h (0, t.2) (ik, iw, ir) ih it H9 h9) 0 rfl rfl (fun s9q => ((w, rds, sd, ad), pg, sn, s0, s1, s2, h, s9q, (ik, iw, ir), ih, it)) (fun _ s9q H9 _ h9 => of_t E a (w, rds, sd, ad) pg sn s0 s1 s2 h (ik, iw, ir) ih it s9q H9 h9) rfl (Nat.le_of_ble_eq_true rfl) dX5_tell_31 (fun v9 s9 hv9 => ?_)
    rcases hv9 with ⟨h6, -⟩ | ⟨-, rfl, rfl⟩
    · -- alt
      exact absurd h6 (by decide)
    · -- alt
      refine g_pop 34 O dX5_tell_34 rfl ?_
      refine g_iload_n 35 O dX5_tell_35 rfl 0 rfl ?_
      exact g_iret 36 O dX5_tell_36 (by rw [hP0]; exact ⟨_, rfl, by rw [A_tell, if_pos (ite_t h4), ← ht.1], by rw [NS_tell, N_tell, if_pos (ite_t h4), huc]; exact ⟨⟨⟨hw, hw0⟩, rfl, rfl, had, had60⟩, ⟨hpg, hpn, hpc⟩, hz, hs, ho, hh, ⟨rfl, Nat.le_of_ble_eq_true rfl, fun k hk => by
            have hk : k < 1 := hk
            have e : k = 0 := by omega
            subst e
            exact ⟨by show upd t.2 0 p0 0 = nI (if 0 = 0 then u else tl.2 0); rw [upd_s]; exact hu, hu0⟩⟩, hi⟩⟩)
  · -- not taken
    refine g_bipush 7 O (v := (-101)) dX5_tell_7 (by decide) ?_
    exact g_iret 9 O dX5_tell_9 (by rw [hP0]; exact ⟨_, rfl, by rw [A_tell, if_neg (ite_f h4)], by rw [NS_tell, N_tell, if_neg (ite_f h4)]; exact ⟨⟨⟨hw, hw0⟩, rfl, rfl, had, had60⟩, ⟨hpg, hpn, hpc⟩, hz, hs, ho, hh, ht, hi⟩⟩)

theorem TlW_add {t : Tc} {y : Tl} (ht : TlW t y) (h6 : y.1 < 6) {p0 : Int32} {u : Nat} (hu : p0 = nI u) (hu0 : u < 64) : TlW (nI (y.1 + 1), upd t.2 y.1 p0) (y.1 + 1, fun k => if k = y.1 then u else y.2 k) := by
  refine ⟨rfl, h6, fun j hj => ?_⟩
  have hj : j < y.1 + 1 := hj
  show upd t.2 y.1 p0 j = nI (if j = y.1 then u else y.2 j) ∧ (if j = y.1 then u else y.2 j) < 64
  by_cases e : j = y.1
  · subst e
    simp only [upd_s, if_true]
    exact ⟨hu, hu0⟩
  · simp only [upd_n _ _ e, e, if_false]
    exact ht.2.2 j (by omega)
theorem HrW_of {h h2 : Hc} {y : Hr} (hh : HrW h y) (h1 : h2.1 = h.1) (hk : ∀ k, k < y.1 → h2.2.1 k = h.2.1 k ∧ h2.2.2.1 k = h.2.2.1 k ∧ h2.2.2.2.1 k = h.2.2.2.1 k ∧ h2.2.2.2.2 k = h.2.2.2.2 k) : HrW h2 y := by
  refine ⟨h1.trans hh.1, hh.2.1, fun k hk2 => ?_⟩
  obtain ⟨a1, a2, a3, a4⟩ := hk k hk2
  rw [a1, a2, a3, a4]
  exact hh.2.2 k hk2
theorem TlW_of {t t2 : Tc} {y : Tl} (ht : TlW t y) (h1 : t2.1 = t.1) (hk : ∀ k, k < y.1 → t2.2 k = t.2 k) : TlW t2 y := by
  refine ⟨h1.trans ht.1, ht.2.1, fun k hk2 => ?_⟩
  rw [hk k hk2]
  exact ht.2.2 k hk2

set_option maxRecDepth 100000 in
set_option maxHeartbeats 4000000 in
theorem c_X5_then (l : Launch) (E : Ev) (a : Nat → Nat) (w rds sd ad : Int32) (pg : Pc) (sn : Nat → Int32) (s0 s1 s2 : Sc) (h : Hc) (t : Tc) (ik iw ir : Int32) (ih : Hc) (it : Tc) (p0 : Int32) (z : Nat → Nat) (y : Sy) (hs : SyA s0 z y) (hz : SnW sn z) (o : Sy) (ho : SyA s1 z o) (hr : Hr) (hh : HrW h hr) (tl : Tl) (ht : TlW t tl) (pn : Nat) (pc : Nat → Int32) (hpg : pg = (nI pn, pc)) (hpn : pn ≤ 14) (hpc : ∀ k, k < pn → 32 ≤ pc k ∧ pc k ≤ 126) (wn : Nat) (hw : w = nI wn) (hw0 : wn < 64) (adn : Nat) (had : ad = nI adn) (had60 : adn ≤ 60) (im : Bool × Nat × Int32 × Hr × Tl) (hi : RI (ik, iw, ir) ih it im) : Ctr l yX5_then cX5_then 2 (some .int) 1 21 E (wX E a) [.ref (a 0), .int p0] (((w, rds, sd, ad), pg, sn, s0, s1, s2, h, t, (ik, iw, ir), ih, it)) (pI (fun r x => r = A_then tl p0 ∧ RX x (NS_then ((wn, rds, sd, adn), (pn, pc), z, y, o, hr, tl, im) p0))) := by
  refine Ctr.of' (by decide +kernel) (Nat.le_of_ble_eq_true rfl) (fun X P0 hP0 O => ?_)
  refine g_sub [0, 1] (lv' := [(0, .ref (a 0)), (1, .int p0)]) rfl ?_
  refine g_aload_n 0 O dX5_then_0 rfl 0 rfl ?_
  refine g_get 1 O (v := .ref (a 30)) inX5 0 rfl rfl 6 (by decide) kf_X5_43 rfl dX5_then_1 ?_
  refine g_getN 4 O (v := .int t.1) inX4 30 rfl rfl 1 (by decide) (fun _ h => h.2.2.2.2.2.2.2.2.1) rfl dX5_then_4 ?_
  refine g_if_ne 7 O 13 dX5_then_7 (by decide) (fun h7 => ?_) (fun h7 => ?_)
  · -- taken
    refine g_iload_n 13 O dX5_then_13 rfl 1 rfl ?_
    refine g_callS 14 O (na := 1) (av := [.int p0]) (c_X5_isWorld l E _ _ p0) kl_X5_114 ks_X5_isWorld ki_X5 kc_X5_isWorld (by decide +kernel) rfl (Nat.le_of_ble_eq_true rfl) (Nat.le_of_ble_eq_true rfl) (fun _ h => h) (fun s => s) (fun _ _ _ _ h => h) rfl (Nat.le_of_ble_eq_true rfl) dX5_then_14 (fun v9 s9 hv9 => ?_)
    obtain ⟨rfl, rfl⟩ := hv9
    refine g_if_ne 17 O 23 dX5_then_17 (by decide) (fun h17 => ?_) (fun h17 => ?_)
    · -- taken
      obtain ⟨u, hu0, hu, huc⟩ := rng_of (n := 64) (by decide) (ite_t h17)
      refine g_aload_n 23 O dX5_then_23 rfl 0 rfl ?_
      refine g_get 24 O (v := .ref (a 30)) inX5 0 rfl rfl 6 (by decide) kf_X5_43 rfl dX5_then_24 ?_
      refine g_iload_n 27 O dX5_then_27 rfl 1 rfl ?_
      refine g_callV 28 O (na := 1) (av := [.int p0]) (c_X4_append l E (sh a 30) (r_t E a (w, rds, sd, ad) pg sn s0 s1 s2 h (ik, iw, ir) ih it) t.1 t.2 p0 tl.1 ht.1 ht.2.1) kl_X5_215 km_X4_append kv_X4_append ki_X4 kc_X4_append (by decide +kernel) rfl (Nat.le_of_ble_eq_true rfl) (Nat.le_of_ble_eq_true rfl) (fun H9 h9 => to_t E a (w, rds, sd, ad) pg sn s0 s1 s2 h t (ik, iw, ir) ih it H9 h9) 0 rfl rfl (fun s9q => ((w, rds, sd, ad), pg, sn, s0, s1, s2, h, s9q, (ik, iw, ir), ih, it)) (fun _ s9q H9 _ h9 => of_t E a (w, rds, sd, ad) pg sn s0 s1 s2 h (ik, iw, ir) ih it s9q H9 h9) rfl (Nat.le_of_ble_eq_true rfl) dX5_then_28 (fun v9 s9 hv9 => ?_)
      rcases hv9 with ⟨hge, rfl, rfl⟩ | ⟨hlt, rfl, rfl⟩
      · -- alt
        refine g_if_eq 31 O 44 dX5_then_31 (by decide) (fun h31 => ?_) (fun h31 => False.elim (absurd h31 (by decide)))
        refine g_bipush 44 O (v := (-104)) dX5_then_44 (by decide) ?_
        exact g_iret 46 O dX5_then_46 (by rw [hP0]; exact ⟨_, rfl, by rw [A_then, if_neg (fun e => h7 (by rw [ht.1, e]; rfl)), if_pos (ite_t h17), if_neg (by omega)], by rw [NS_then, N_then, if_neg (fun q => absurd q.2.2 (by show ¬ tl.1 < 6; omega))]; exact ⟨⟨⟨hw, hw0⟩, rfl, rfl, had, had60⟩, ⟨hpg, hpn, hpc⟩, hz, hs, ho, hh, ht, hi⟩⟩)
      · -- alt
        refine g_if_eq 31 O 44 dX5_then_31 (by decide) (fun h31 => False.elim (absurd h31 (by decide))) (fun h31 => ?_)
        refine g_aload_n 34 O dX5_then_34 rfl 0 rfl ?_
        refine g_get 35 O (v := .ref (a 30)) inX5 0 rfl rfl 6 (by decide) kf_X5_43 rfl dX5_then_35 ?_
        refine g_getN 38 O (v := .int (nI (tl.1 + 1))) inX4 30 rfl rfl 1 (by decide) (fun _ h => h.2.2.2.2.2.2.2.2.1) rfl dX5_then_38 ?_
        refine g_goto 41 O 46 dX5_then_41 (by decide) ?_
        exact g_iret 46 O dX5_then_46 (by rw [hP0]; exact ⟨_, rfl, by rw [A_then, if_neg (fun e => h7 (by rw [ht.1, e]; rfl)), if_pos (ite_t h17), if_pos hlt], by rw [NS_then, N_then, if_pos ⟨(fun e => h7 (by rw [ht.1, e]; rfl)), ite_t h17, hlt⟩, huc]; exact ⟨⟨⟨hw, hw0⟩, rfl, rfl, had, had60⟩, ⟨hpg, hpn, hpc⟩, hz, hs, ho, hh, TlW_add ht hlt hu hu0, hi⟩⟩)
    · -- not taken
      refine g_bipush 20 O (v := (-101)) dX5_then_20 (by decide) ?_
      exact g_iret 22 O dX5_then_22 (by rw [hP0]; exact ⟨_, rfl, by rw [A_then, if_neg (fun e => h7 (by rw [ht.1, e]; rfl)), if_neg (ite_f h17)], by rw [NS_then, N_then, if_neg (fun q => ite_f h17 q.2.1)]; exact ⟨⟨⟨hw, hw0⟩, rfl, rfl, had, had60⟩, ⟨hpg, hpn, hpc⟩, hz, hs, ho, hh, ht, hi⟩⟩)
  · -- not taken
    refine g_bipush 10 O (v := (-103)) dX5_then_10 (by decide) ?_
    exact g_iret 12 O dX5_then_12 (by rw [hP0]; exact ⟨_, rfl, by rw [A_then, if_pos ((nI_eq (b := 0) (by have := ht.2.1; omega) (by decide)).mp (by rw [← ht.1]; exact h7))], by rw [NS_then, N_then, if_neg (fun q => q.1 ((nI_eq (b := 0) (by have := ht.2.1; omega) (by decide)).mp (by rw [← ht.1]; exact h7)))]; exact ⟨⟨⟨hw, hw0⟩, rfl, rfl, had, had60⟩, ⟨hpg, hpn, hpc⟩, hz, hs, ho, hh, ht, hi⟩⟩)

set_option maxRecDepth 100000 in
set_option maxHeartbeats 4000000 in
theorem c_X5_image (l : Launch) (E : Ev) (a : Nat → Nat) (w rds sd ad : Int32) (pg : Pc) (sn : Nat → Int32) (s0 s1 s2 : Sc) (h : Hc) (t : Tc) (ik iw ir : Int32) (ih : Hc) (it : Tc) (z : Nat → Nat) (y : Sy) (hs : SyA s0 z y) (hz : SnW sn z) (o : Sy) (ho : SyA s1 z o) (hr : Hr) (hh : HrW h hr) (tl : Tl) (ht : TlW t tl) (pn : Nat) (pc : Nat → Int32) (hpg : pg = (nI pn, pc)) (hpn : pn ≤ 14) (hpc : ∀ k, k < pn → 32 ≤ pc k ∧ pc k ≤ 126) (wn : Nat) (hw : w = nI wn) (hw0 : wn < 64) (adn : Nat) (had : ad = nI adn) (had60 : adn ≤ 60) (im : Bool × Nat × Int32 × Hr × Tl) (hi : RI (ik, iw, ir) ih it im) : Ctr l yX5_image cX5_image 1 (some .int) 2 43 E (wX E a) [.ref (a 0)] (((w, rds, sd, ad), pg, sn, s0, s1, s2, h, t, (ik, iw, ir), ih, it)) (pI (fun r x => r = nI wn ∧ RX x (NS_image ((wn, rds, sd, adn), (pn, pc), z, y, o, hr, tl, im)))) := by
  refine Ctr.of' (by decide +kernel) (Nat.le_of_ble_eq_true rfl) (fun X P0 hP0 O => ?_)
  refine g_sub [0] (lv' := [(0, .ref (a 0))]) rfl ?_
  refine g_aload_n 0 O dX5_image_0 rfl 0 rfl ?_
  refine g_get 1 O (v := .ref (a 32)) inX5 0 rfl rfl 7 (by decide) kf_X5_50 rfl dX5_image_1 ?_
  refine g_iconst 4 O (v := 1) dX5_image_4 (by decide) ?_
  refine g_putN 5 O inX1 tyX1_ok nmX1 (((w, rds, sd, ad), pg, sn, s0, s1, s2, h, t, (1, iw, ir), ih, it)) 32 rfl rfl 2 (by decide) (fun _ h => h.2.2.2.2.2.2.2.2.2.2.2.1) rfl (rfl) (rfl) (Nat.le_of_ble_eq_true rfl) rfl dX5_image_5 ?_
  refine g_aload_n 8 O dX5_image_8 rfl 0 rfl ?_
  refine g_get 9 O (v := .ref (a 32)) inX5 0 rfl rfl 7 (by decide) kf_X5_50 rfl dX5_image_9 ?_
  refine g_aload_n 12 O dX5_image_12 rfl 0 rfl ?_
  refine g_get 13 O (v := .int w) inX5 0 rfl rfl 8 (by decide) kf_X5_124 rfl dX5_image_13 ?_
  refine g_putN 16 O inX1 tyX1_ok nmX1 (((w, rds, sd, ad), pg, sn, s0, s1, s2, h, t, (1, w, ir), ih, it)) 32 rfl rfl 3 (by decide) (fun _ h => h.2.2.2.2.2.2.2.2.2.2.2.2.1) rfl (rfl) (rfl) (Nat.le_of_ble_eq_true rfl) rfl dX5_image_16 ?_
  refine g_aload_n 19 O dX5_image_19 rfl 0 rfl ?_
  refine g_get 20 O (v := .ref (a 32)) inX5 0 rfl rfl 7 (by decide) kf_X5_50 rfl dX5_image_20 ?_
  refine g_aload_n 23 O dX5_image_23 rfl 0 rfl ?_
  refine g_get 24 O (v := .int rds) inX5 0 rfl rfl 9 (by decide) kf_X5_182 rfl dX5_image_24 ?_
  refine g_putN 27 O inX1 tyX1_ok nmX1 (((w, rds, sd, ad), pg, sn, s0, s1, s2, h, t, (1, w, rds), ih, it)) 32 rfl rfl 4 (by decide) (fun _ h => h.2.2.2.2.2.2.2.2.2.2.2.2.2.1) rfl (rfl) (rfl) (Nat.le_of_ble_eq_true rfl) rfl dX5_image_27 ?_
  refine g_aload_n 30 O dX5_image_30 rfl 0 rfl ?_
  refine g_get 31 O (v := .ref (a 32)) inX5 0 rfl rfl 7 (by decide) kf_X5_50 rfl dX5_image_31 ?_
  refine g_getN 34 O (v := .ref (a 33)) inX1 32 rfl rfl 0 (by decide) (fun _ h => h.2.2.2.2.2.2.2.2.2.1) rfl dX5_image_34 ?_
  refine g_aload_n 37 O dX5_image_37 rfl 0 rfl ?_
  refine g_get 38 O (v := .ref (a 25)) inX5 0 rfl rfl 5 (by decide) kf_X5_36 rfl dX5_image_38 ?_
  refine g_callV 41 O (na := 1) (av := [.ref (a 25)]) (c_X0_become l E (sh a 33) (sh a 25) (r_ih_h E a (w, rds, sd, ad) pg sn s0 s1 s2 t (1, w, rds) it) h ih.1 ih.2.1 ih.2.2.1 ih.2.2.2.1 ih.2.2.2.2 hr.1 hh.1 hh.2.1) kl_X5_235 km_X0_become kv_X0_become ki_X0 kc_X0_become (by decide +kernel) rfl (Nat.le_of_ble_eq_true rfl) (Nat.le_of_ble_eq_true rfl) (fun H9 h9 => to_ih_h E a (w, rds, sd, ad) pg sn s0 s1 s2 h t (1, w, rds) ih it H9 h9) 0 rfl rfl (fun s9q => ((w, rds, sd, ad), pg, sn, s0, s1, s2, h, t, (1, w, rds), s9q, it)) (fun _ s9q H9 _ h9 => of_ih_h E a (w, rds, sd, ad) pg sn s0 s1 s2 h t (1, w, rds) it s9q H9 h9) rfl (Nat.le_of_ble_eq_true rfl) dX5_image_41 (fun v9 ih2 hv9 => ?_)
  obtain ⟨rfl, hA1, hA2⟩ := hv9
  refine g_aload_n 44 O dX5_image_44 rfl 0 rfl ?_
  refine g_get 45 O (v := .ref (a 32)) inX5 0 rfl rfl 7 (by decide) kf_X5_50 rfl dX5_image_45 ?_
  refine g_getN 48 O (v := .ref (a 38)) inX1 32 rfl rfl 1 (by decide) (fun _ h => h.2.2.2.2.2.2.2.2.2.2.1) rfl dX5_image_48 ?_
  refine g_aload_n 51 O dX5_image_51 rfl 0 rfl ?_
  refine g_get 52 O (v := .ref (a 30)) inX5 0 rfl rfl 6 (by decide) kf_X5_43 rfl dX5_image_52 ?_
  refine g_callV 55 O (na := 1) (av := [.ref (a 30)]) (c_X4_become l E (sh a 38) (sh a 30) (r_it_t E a (w, rds, sd, ad) pg sn s0 s1 s2 h (1, w, rds) ih2) t it.1 it.2 tl.1 ht.1 ht.2.1) kl_X5_239 km_X4_become kv_X4_become ki_X4 kc_X4_become (by decide +kernel) rfl (Nat.le_of_ble_eq_true rfl) (Nat.le_of_ble_eq_true rfl) (fun H9 h9 => to_it_t E a (w, rds, sd, ad) pg sn s0 s1 s2 h t (1, w, rds) ih2 it H9 h9) 0 rfl rfl (fun s9q => ((w, rds, sd, ad), pg, sn, s0, s1, s2, h, t, (1, w, rds), ih2, s9q)) (fun _ s9q H9 _ h9 => of_it_t E a (w, rds, sd, ad) pg sn s0 s1 s2 h t (1, w, rds) ih2 s9q H9 h9) rfl (Nat.le_of_ble_eq_true rfl) dX5_image_55 (fun v9 it2 hv9 => ?_)
  obtain ⟨rfl, hB1, hB2⟩ := hv9
  refine g_aload_n 58 O dX5_image_58 rfl 0 rfl ?_
  refine g_get 59 O (v := .int w) inX5 0 rfl rfl 8 (by decide) kf_X5_124 rfl dX5_image_59 ?_
  exact g_iret 62 O dX5_image_62 (by rw [hP0]; exact ⟨_, rfl, hw, by rw [NS_image]; exact ⟨⟨⟨hw, hw0⟩, rfl, rfl, had, had60⟩, ⟨hpg, hpn, hpc⟩, hz, hs, ho, hh, ht, ⟨rfl, ⟨hw, hw0⟩, rfl, HrW_of hh hA1 hA2, TlW_of ht hB1 hB2⟩⟩⟩)

set_option maxRecDepth 100000 in
set_option maxHeartbeats 4000000 in
theorem c_X5_restore (l : Launch) (E : Ev) (a : Nat → Nat) (w rds sd ad : Int32) (pg : Pc) (sn : Nat → Int32) (s0 s1 s2 : Sc) (h : Hc) (t : Tc) (ik iw ir : Int32) (ih : Hc) (it : Tc) (z : Nat → Nat) (y : Sy) (hs : SyA s0 z y) (hz : SnW sn z) (o : Sy) (ho : SyA s1 z o) (hr : Hr) (hh : HrW h hr) (tl : Tl) (ht : TlW t tl) (pn : Nat) (pc : Nat → Int32) (hpg : pg = (nI pn, pc)) (hpn : pn ≤ 14) (hpc : ∀ k, k < pn → 32 ≤ pc k ∧ pc k ≤ 126) (wn : Nat) (hw : w = nI wn) (hw0 : wn < 64) (adn : Nat) (had : ad = nI adn) (had60 : adn ≤ 60) (im : Bool × Nat × Int32 × Hr × Tl) (hi : RI (ik, iw, ir) ih it im) : Ctr l yX5_restore cX5_restore 1 (some .int) 2 43 E (wX E a) [.ref (a 0)] (((w, rds, sd, ad), pg, sn, s0, s1, s2, h, t, (ik, iw, ir), ih, it)) (pI (fun r x => r = A_restore ((wn, rds, sd, adn), (pn, pc), z, y, o, hr, tl, im) ∧ RX x (NS_restore ((wn, rds, sd, adn), (pn, pc), z, y, o, hr, tl, im)))) := by
  refine Ctr.of' (by decide +kernel) (Nat.le_of_ble_eq_true rfl) (fun X P0 hP0 O => ?_)
  refine g_sub [0] (lv' := [(0, .ref (a 0))]) rfl ?_
  refine g_aload_n 0 O dX5_restore_0 rfl 0 rfl ?_
  refine g_get 1 O (v := .ref (a 32)) inX5 0 rfl rfl 7 (by decide) kf_X5_50 rfl dX5_restore_1 ?_
  refine g_getN 4 O (v := .int ik) inX1 32 rfl rfl 2 (by decide) (fun _ h => h.2.2.2.2.2.2.2.2.2.2.2.1) rfl dX5_restore_4 ?_
  refine g_si (bi im.1) (hi.1) ?_
  refine g_if_ne 7 O 13 dX5_restore_7 (by decide) (fun h7 => ?_) (fun h7 => ?_)
  · -- taken
    refine g_aload_n 13 O dX5_restore_13 rfl 0 rfl ?_
    refine g_aload_n 14 O dX5_restore_14 rfl 0 rfl ?_
    refine g_get 15 O (v := .ref (a 32)) inX5 0 rfl rfl 7 (by decide) kf_X5_50 rfl dX5_restore_15 ?_
    refine g_getN 18 O (v := .int iw) inX1 32 rfl rfl 3 (by decide) (fun _ h => h.2.2.2.2.2.2.2.2.2.2.2.2.1) rfl dX5_restore_18 ?_
    refine g_put 21 O inX5 tyX5_ok nmX5 (((iw, rds, sd, ad), pg, sn, s0, s1, s2, h, t, (ik, iw, ir), ih, it)) 0 rfl rfl 8 (by decide) kf_X5_124 rfl (rfl) (rfl) (Nat.le_of_ble_eq_true rfl) rfl dX5_restore_21 ?_
    refine g_aload_n 24 O dX5_restore_24 rfl 0 rfl ?_
    refine g_aload_n 25 O dX5_restore_25 rfl 0 rfl ?_
    refine g_get 26 O (v := .ref (a 32)) inX5 0 rfl rfl 7 (by decide) kf_X5_50 rfl dX5_restore_26 ?_
    refine g_getN 29 O (v := .int ir) inX1 32 rfl rfl 4 (by decide) (fun _ h => h.2.2.2.2.2.2.2.2.2.2.2.2.2.1) rfl dX5_restore_29 ?_
    refine g_put 32 O inX5 tyX5_ok nmX5 (((iw, ir, sd, ad), pg, sn, s0, s1, s2, h, t, (ik, iw, ir), ih, it)) 0 rfl rfl 9 (by decide) kf_X5_182 rfl (rfl) (rfl) (Nat.le_of_ble_eq_true rfl) rfl dX5_restore_32 ?_
    refine g_aload_n 35 O dX5_restore_35 rfl 0 rfl ?_
    refine g_get 36 O (v := .ref (a 25)) inX5 0 rfl rfl 5 (by decide) kf_X5_36 rfl dX5_restore_36 ?_
    refine g_aload_n 39 O dX5_restore_39 rfl 0 rfl ?_
    refine g_get 40 O (v := .ref (a 32)) inX5 0 rfl rfl 7 (by decide) kf_X5_50 rfl dX5_restore_40 ?_
    refine g_getN 43 O (v := .ref (a 33)) inX1 32 rfl rfl 0 (by decide) (fun _ h => h.2.2.2.2.2.2.2.2.2.1) rfl dX5_restore_43 ?_
    refine g_callV 46 O (na := 1) (av := [.ref (a 33)]) (c_X0_become l E (sh a 25) (sh a 33) (r_h_ih E a (iw, ir, sd, ad) pg sn s0 s1 s2 t (ik, iw, ir) it) ih h.1 h.2.1 h.2.2.1 h.2.2.2.1 h.2.2.2.2 im.2.2.2.1.1 hi.2.2.2.1.1 hi.2.2.2.1.2.1) kl_X5_235 km_X0_become kv_X0_become ki_X0 kc_X0_become (by decide +kernel) rfl (Nat.le_of_ble_eq_true rfl) (Nat.le_of_ble_eq_true rfl) (fun H9 h9 => to_h_ih E a (iw, ir, sd, ad) pg sn s0 s1 s2 h t (ik, iw, ir) ih it H9 h9) 0 rfl rfl (fun s9q => ((iw, ir, sd, ad), pg, sn, s0, s1, s2, s9q, t, (ik, iw, ir), ih, it)) (fun _ s9q H9 _ h9 => of_h_ih E a (iw, ir, sd, ad) pg sn s0 s1 s2 t (ik, iw, ir) ih it s9q H9 h9) rfl (Nat.le_of_ble_eq_true rfl) dX5_restore_46 (fun v9 h2 hv9 => ?_)
    obtain ⟨rfl, hA1, hA2⟩ := hv9
    refine g_aload_n 49 O dX5_restore_49 rfl 0 rfl ?_
    refine g_get 50 O (v := .ref (a 30)) inX5 0 rfl rfl 6 (by decide) kf_X5_43 rfl dX5_restore_50 ?_
    refine g_aload_n 53 O dX5_restore_53 rfl 0 rfl ?_
    refine g_get 54 O (v := .ref (a 32)) inX5 0 rfl rfl 7 (by decide) kf_X5_50 rfl dX5_restore_54 ?_
    refine g_getN 57 O (v := .ref (a 38)) inX1 32 rfl rfl 1 (by decide) (fun _ h => h.2.2.2.2.2.2.2.2.2.2.1) rfl dX5_restore_57 ?_
    refine g_callV 60 O (na := 1) (av := [.ref (a 38)]) (c_X4_become l E (sh a 30) (sh a 38) (r_t_it E a (iw, ir, sd, ad) pg sn s0 s1 s2 h2 (ik, iw, ir) ih) it t.1 t.2 im.2.2.2.2.1 hi.2.2.2.2.1 hi.2.2.2.2.2.1) kl_X5_239 km_X4_become kv_X4_become ki_X4 kc_X4_become (by decide +kernel) rfl (Nat.le_of_ble_eq_true rfl) (Nat.le_of_ble_eq_true rfl) (fun H9 h9 => to_t_it E a (iw, ir, sd, ad) pg sn s0 s1 s2 h2 t (ik, iw, ir) ih it H9 h9) 0 rfl rfl (fun s9q => ((iw, ir, sd, ad), pg, sn, s0, s1, s2, h2, s9q, (ik, iw, ir), ih, it)) (fun _ s9q H9 _ h9 => of_t_it E a (iw, ir, sd, ad) pg sn s0 s1 s2 h2 (ik, iw, ir) ih it s9q H9 h9) rfl (Nat.le_of_ble_eq_true rfl) dX5_restore_60 (fun v9 t2 hv9 => ?_)
    obtain ⟨rfl, hB1, hB2⟩ := hv9
    refine g_aload_n 63 O dX5_restore_63 rfl 0 rfl ?_
    refine g_get 64 O (v := .int iw) inX5 0 rfl rfl 8 (by decide) kf_X5_124 rfl dX5_restore_64 ?_
    exact g_iret 67 O dX5_restore_67 (by rw [hP0]; exact ⟨_, rfl, by rw [A_restore, if_pos (bi_t h7)]; exact hi.2.1.1, by rw [NS_restore, if_pos (bi_t h7)]; exact ⟨⟨hi.2.1, hi.2.2.1, rfl, had, had60⟩, ⟨hpg, hpn, hpc⟩, hz, hs, ho, HrW_of hi.2.2.2.1 hA1 hA2, TlW_of hi.2.2.2.2 hB1 hB2, hi⟩⟩)
  · -- not taken
    refine g_bipush 10 O (v := (-103)) dX5_restore_10 (by decide) ?_
    exact g_iret 12 O dX5_restore_12 (by rw [hP0]; exact ⟨_, rfl, by rw [A_restore, if_neg (by show ¬ im.1 = true; rw [bi_f h7]; decide)], by rw [NS_restore, if_neg (by show ¬ im.1 = true; rw [bi_f h7]; decide)]; exact ⟨⟨⟨hw, hw0⟩, rfl, rfl, had, had60⟩, ⟨hpg, hpn, hpc⟩, hz, hs, ho, hh, ht, hi⟩⟩)
