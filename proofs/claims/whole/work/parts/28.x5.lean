set_option maxRecDepth 100000 in
set_option maxHeartbeats 4000000 in
theorem c_X5_letter (l : Launch) (E : Ev) (a : Nat → Nat) (w rds sd ad : Int32) (pg : Pc) (sn : Nat → Int32) (s0 s1 s2 : Sc) (h : Hc) (t : Tc) (ik iw ir : Int32) (ih : Hc) (it : Tc) (p0 : Int32) (z : Nat → Nat) (y : Sy) (hs : SyA s0 z y) (hz : SnW sn z) (o : Sy) (ho : SyA s1 z o) (hr : Hr) (hh : HrW h hr) (tl : Tl) (ht : TlW t tl) (pn : Nat) (pc : Nat → Int32) (hpg : pg = (nI pn, pc)) (hpn : pn ≤ 14) (hpc : ∀ k, k < pn → 32 ≤ pc k ∧ pc k ≤ 126) (wn : Nat) (hw : w = nI wn) (hw0 : wn < 64) (adn : Nat) (had : ad = nI adn) (had60 : adn ≤ 60) (im : Bool × Nat × Int32 × Hr × Tl) (hi : RI (ik, iw, ir) ih it im) : Ctr l yX5_letter cX5_letter 2 (some .int) 1 21 E (wX E a) [.ref (a 0), .int p0] (((w, rds, sd, ad), pg, sn, s0, s1, s2, h, t, (ik, iw, ir), ih, it)) (pI (fun r x => r = A_letter pn p0 ∧ RX x (NS_letter ((wn, rds, sd, adn), (pn, pc), z, y, o, hr, tl, im) p0))) := by
  refine Ctr.of' (by decide +kernel) (Nat.le_of_ble_eq_true rfl) (fun X P0 hP0 O => ?_)
  refine g_sub [0, 1] (lv' := [(0, .ref (a 0)), (1, .int p0)]) rfl ?_
  refine g_iload_n 0 O dX5_letter_0 rfl 1 rfl ?_
  refine g_bipush 1 O (v := 32) dX5_letter_1 (by decide) ?_
  refine g_icmp_lt 3 O 12 dX5_letter_3 (by decide) (fun h3 => ?_) (fun h3 => ?_)
  · -- taken
    refine g_bipush 12 O (v := (-102)) dX5_letter_12 (by decide) ?_
    exact g_iret 14 O dX5_letter_14 (by rw [hP0]; exact ⟨_, rfl, by rw [A_letter, if_neg (fun q => Int32.not_le.mpr h3 q.1)], by rw [NS_letter, N_letter, if_neg (fun q => (fun q => Int32.not_le.mpr h3 q.1) q.1)]; exact ⟨⟨⟨hw, hw0⟩, rfl, rfl, had, had60⟩, ⟨hpg, hpn, hpc⟩, hz, hs, ho, hh, ht, hi⟩⟩)
  · -- not taken
    refine g_iload_n 6 O dX5_letter_6 rfl 1 rfl ?_
    refine g_bipush 7 O (v := 126) dX5_letter_7 (by decide) ?_
    refine g_icmp_le 9 O 15 dX5_letter_9 (by decide) (fun h9 => ?_) (fun h9 => ?_)
    · -- taken
      refine g_aload_n 15 O dX5_letter_15 rfl 0 rfl ?_
      refine g_get 16 O (v := .ref (a 1)) inX5 0 rfl rfl 0 (by decide) kf_X5_10 rfl dX5_letter_16 ?_
      refine g_iload_n 19 O dX5_letter_19 rfl 1 rfl ?_
      refine g_callV 20 O (na := 1) (av := [.int p0]) (c_X2_write l E (sh a 1) (r_pg E a (w, rds, sd, ad) sn s0 s1 s2 h t (ik, iw, ir) ih it) pg.1 pg.2 p0 pn (by rw [hpg]) hpn) kl_X5_54 km_X2_write kv_X2_write ki_X2 kc_X2_write (by decide +kernel) rfl (Nat.le_of_ble_eq_true rfl) (Nat.le_of_ble_eq_true rfl) (fun H9 h9 => to_pg E a (w, rds, sd, ad) pg sn s0 s1 s2 h t (ik, iw, ir) ih it H9 h9) 0 rfl rfl (fun s9q => ((w, rds, sd, ad), s9q, sn, s0, s1, s2, h, t, (ik, iw, ir), ih, it)) (fun _ s9q H9 _ h9 => of_pg E a (w, rds, sd, ad) sn s0 s1 s2 h t (ik, iw, ir) ih it s9q H9 h9) rfl (Nat.le_of_ble_eq_true rfl) dX5_letter_20 (fun v9 s9 hv9 => ?_)
      rcases hv9 with ⟨hge, rfl, rfl⟩ | ⟨hlt, rfl, rfl⟩
      · -- alt
        refine g_if_eq 23 O 36 dX5_letter_23 (by decide) (fun h23 => ?_) (fun h23 => False.elim (absurd h23 (by decide)))
        refine g_bipush 36 O (v := (-104)) dX5_letter_36 (by decide) ?_
        exact g_iret 38 O dX5_letter_38 (by rw [hP0]; exact ⟨_, rfl, by rw [A_letter, if_pos ⟨Int32.not_lt.mp h3, h9⟩, if_neg (by omega)], by rw [NS_letter, N_letter, if_neg (fun q => absurd q.2 (by show ¬ pn < 14; omega))]; exact ⟨⟨⟨hw, hw0⟩, rfl, rfl, had, had60⟩, ⟨hpg, hpn, hpc⟩, hz, hs, ho, hh, ht, hi⟩⟩)
      · -- alt
        refine g_if_eq 23 O 36 dX5_letter_23 (by decide) (fun h23 => False.elim (absurd h23 (by decide))) (fun h23 => ?_)
        refine g_aload_n 26 O dX5_letter_26 rfl 0 rfl ?_
        refine g_get 27 O (v := .ref (a 1)) inX5 0 rfl rfl 0 (by decide) kf_X5_10 rfl dX5_letter_27 ?_
        refine g_getN 30 O (v := .int (nI (pn + 1))) inX2 1 rfl rfl 1 (by decide) (fun _ h => h.1) rfl dX5_letter_30 ?_
        refine g_goto 33 O 38 dX5_letter_33 (by decide) ?_
        exact g_iret 38 O dX5_letter_38 (by rw [hP0]; exact ⟨_, rfl, by rw [A_letter, if_pos ⟨Int32.not_lt.mp h3, h9⟩, if_pos hlt], by rw [NS_letter, N_letter, if_pos ⟨⟨Int32.not_lt.mp h3, h9⟩, hlt⟩]; exact ⟨⟨⟨hw, hw0⟩, rfl, rfl, had, had60⟩, ⟨by rw [hpg], hlt, fun k hk => by
            by_cases e : k = pn
            · subst e; show 32 ≤ upd pc k p0 k ∧ upd pc k p0 k ≤ 126; rw [upd_s]; exact ⟨Int32.not_lt.mp h3, h9⟩
            · show 32 ≤ upd pc pn p0 k ∧ upd pc pn p0 k ≤ 126; rw [upd_n _ _ e]; exact hpc k (by have hk : k < pn + 1 := hk; omega)⟩, hz, hs, ho, hh, ht, hi⟩⟩)
    · -- not taken
      refine g_bipush 12 O (v := (-102)) dX5_letter_12 (by decide) ?_
      exact g_iret 14 O dX5_letter_14 (by rw [hP0]; exact ⟨_, rfl, by rw [A_letter, if_neg (fun q => h9 q.2)], by rw [NS_letter, N_letter, if_neg (fun q => (fun q => h9 q.2) q.1)]; exact ⟨⟨⟨hw, hw0⟩, rfl, rfl, had, had60⟩, ⟨hpg, hpn, hpc⟩, hz, hs, ho, hh, ht, hi⟩⟩)

set_option maxRecDepth 100000 in
set_option maxHeartbeats 4000000 in
theorem c_X5_blank (l : Launch) (E : Ev) (a : Nat → Nat) (w rds sd ad : Int32) (pg : Pc) (sn : Nat → Int32) (s0 s1 s2 : Sc) (h : Hc) (t : Tc) (ik iw ir : Int32) (ih : Hc) (it : Tc) (z : Nat → Nat) (y : Sy) (hs : SyA s0 z y) (hz : SnW sn z) (o : Sy) (ho : SyA s1 z o) (hr : Hr) (hh : HrW h hr) (tl : Tl) (ht : TlW t tl) (pn : Nat) (pc : Nat → Int32) (hpg : pg = (nI pn, pc)) (hpn : pn ≤ 14) (hpc : ∀ k, k < pn → 32 ≤ pc k ∧ pc k ≤ 126) (wn : Nat) (hw : w = nI wn) (hw0 : wn < 64) (adn : Nat) (had : ad = nI adn) (had60 : adn ≤ 60) (im : Bool × Nat × Int32 × Hr × Tl) (hi : RI (ik, iw, ir) ih it im) : Ctr l yX5_blank cX5_blank 1 (some .int) 1 21 E (wX E a) [.ref (a 0)] (((w, rds, sd, ad), pg, sn, s0, s1, s2, h, t, (ik, iw, ir), ih, it)) (pI (fun r x => r = nI pn ∧ RX x (NS_blank ((wn, rds, sd, adn), (pn, pc), z, y, o, hr, tl, im)))) := by
  refine Ctr.of' (by decide +kernel) (Nat.le_of_ble_eq_true rfl) (fun X P0 hP0 O => ?_)
  refine g_sub [0] (lv' := [(0, .ref (a 0))]) rfl ?_
  refine g_aload_n 0 O dX5_blank_0 rfl 0 rfl ?_
  refine g_get 1 O (v := .ref (a 1)) inX5 0 rfl rfl 0 (by decide) kf_X5_10 rfl dX5_blank_1 ?_
  refine g_callV 4 O (na := 0) (av := []) (c_X2_clear l E (sh a 1) (r_pg E a (w, rds, sd, ad) sn s0 s1 s2 h t (ik, iw, ir) ih it) pg.1 pg.2 ) kl_X5_62 km_X2_clear kv_X2_clear ki_X2 kc_X2_clear (by decide +kernel) rfl (Nat.le_of_ble_eq_true rfl) (Nat.le_of_ble_eq_true rfl) (fun H9 h9 => to_pg E a (w, rds, sd, ad) pg sn s0 s1 s2 h t (ik, iw, ir) ih it H9 h9) 0 rfl rfl (fun s9q => ((w, rds, sd, ad), s9q, sn, s0, s1, s2, h, t, (ik, iw, ir), ih, it)) (fun _ s9q H9 _ h9 => of_pg E a (w, rds, sd, ad) sn s0 s1 s2 h t (ik, iw, ir) ih it s9q H9 h9) rfl (Nat.le_of_ble_eq_true rfl) dX5_blank_4 (fun v9 s9 hv9 => ?_)
  obtain ⟨rfl, rfl⟩ := hv9
  exact g_iret 7 O dX5_blank_7 (by rw [hP0]; exact ⟨_, rfl, by rw [hpg], by exact ⟨⟨⟨hw, hw0⟩, rfl, rfl, had, had60⟩, ⟨by rw [hpg]; rfl, Nat.zero_le _, fun k hk => absurd hk (Nat.not_lt_zero _)⟩, hz, hs, ho, hh, ht, hi⟩⟩)

set_option maxRecDepth 100000 in
set_option maxHeartbeats 4000000 in
theorem c_X5_say (l : Launch) (E : Ev) (a : Nat → Nat) (w rds sd ad : Int32) (pg : Pc) (sn : Nat → Int32) (s0 s1 s2 : Sc) (h : Hc) (t : Tc) (ik iw ir : Int32) (ih : Hc) (it : Tc) (z : Nat → Nat) (y : Sy) (hs : SyA s0 z y) (hz : SnW sn z) (o : Sy) (ho : SyA s1 z o) (hr : Hr) (hh : HrW h hr) (tl : Tl) (ht : TlW t tl) (pn : Nat) (pc : Nat → Int32) (hpg : pg = (nI pn, pc)) (hpn : pn ≤ 14) (hpc : ∀ k, k < pn → 32 ≤ pc k ∧ pc k ≤ 126) (wn : Nat) (hw : w = nI wn) (hw0 : wn < 64) (adn : Nat) (had : ad = nI adn) (had60 : adn ≤ 60) (im : Bool × Nat × Int32 × Hr × Tl) (hi : RI (ik, iw, ir) ih it im) : Ctr l yX5_say cX5_say 1 (some .int) 5 127 E (wX E a) [.ref (a 0)] (((w, rds, sd, ad), pg, sn, s0, s1, s2, h, t, (ik, iw, ir), ih, it)) (pI (fun r x => r = A_say (pn, pc) ∧ RX x (NS_say ((wn, rds, sd, adn), (pn, pc), z, y, o, hr, tl, im)))) := by
  refine Ctr.of' (by decide +kernel) (Nat.le_of_ble_eq_true rfl) (fun X P0 hP0 O => ?_)
  refine g_sub [0] (lv' := [(0, .ref (a 0))]) rfl ?_
  refine g_aload_n 0 O dX5_say_0 rfl 0 rfl ?_
  refine g_get 1 O (v := .ref (a 1)) inX5 0 rfl rfl 0 (by decide) kf_X5_10 rfl dX5_say_1 ?_
  refine g_callV 4 O (na := 0) (av := []) (c_X2_isSaying l E (sh a 1) (r_pg E a (w, rds, sd, ad) sn s0 s1 s2 h t (ik, iw, ir) ih it) pg.1 pg.2 pn (by rw [hpg]) hpn) kl_X5_72 km_X2_isSaying kv_X2_isSaying ki_X2 kc_X2_isSaying (by decide +kernel) rfl (Nat.le_of_ble_eq_true rfl) (Nat.le_of_ble_eq_true rfl) (fun H9 h9 => to_pg E a (w, rds, sd, ad) pg sn s0 s1 s2 h t (ik, iw, ir) ih it H9 h9) 0 rfl rfl (fun _ => ((w, rds, sd, ad), pg, sn, s0, s1, s2, h, t, (ik, iw, ir), ih, it)) (fun _ _ H9 hp h9 => by obtain ⟨-, rfl⟩ := hp; exact of_pg E a (w, rds, sd, ad) sn s0 s1 s2 h t (ik, iw, ir) ih it _ H9 h9) rfl (Nat.le_of_ble_eq_true rfl) dX5_say_4 (fun v9 s9 hv9 => ?_)
  obtain ⟨rfl, rfl⟩ := hv9
  refine g_if_ne 7 O 13 dX5_say_7 (by decide) (fun h7 => ?_) (fun h7 => ?_)
  · -- taken
    refine g_aload_n 13 O dX5_say_13 rfl 0 rfl ?_
    refine g_get 14 O (v := .ref (a 11)) inX5 0 rfl rfl 3 (by decide) kf_X5_27 rfl dX5_say_14 ?_
    refine g_aload_n 17 O dX5_say_17 rfl 0 rfl ?_
    refine g_get 18 O (v := .ref (a 4)) inX5 0 rfl rfl 2 (by decide) kf_X5_23 rfl dX5_say_18 ?_
    refine g_callV 21 O (na := 1) (av := [.ref (a 4)]) (c_X3_become l E (sh a 11) (sh a 4) (r_s1_s0 E a (w, rds, sd, ad) pg sn s2 h t (ik, iw, ir) ih it) s0 s1.1.1 s1.1.2.1 s1.1.2.2.1 s1.1.2.2.2.1 s1.1.2.2.2.2 s1.2.1 s1.2.2.1 s1.2.2.2.1 s1.2.2.2.2.1 s1.2.2.2.2.2.1 s1.2.2.2.2.2.2 y hs.1) kl_X5_76 km_X3_become kv_X3_become ki_X3 kc_X3_become (by decide +kernel) rfl (Nat.le_of_ble_eq_true rfl) (Nat.le_of_ble_eq_true rfl) (fun H9 h9 => to_s1_s0 E a (w, rds, sd, ad) pg sn s0 s1 s2 h t (ik, iw, ir) ih it H9 h9) 0 rfl rfl (fun s9q => ((w, rds, sd, ad), pg, sn, s0, s9q, s2, h, t, (ik, iw, ir), ih, it)) (fun _ s9q H9 _ h9 => of_s1_s0 E a (w, rds, sd, ad) pg sn s0 s2 h t (ik, iw, ir) ih it s9q H9 h9) rfl (Nat.le_of_ble_eq_true rfl) dX5_say_21 (fun v9 s9 hv9 => ?_)
    obtain ⟨rfl, lt', ng', pl', rfl, hy'⟩ := hv9
    refine g_aload_n 24 O dX5_say_24 rfl 0 rfl ?_
    refine g_get 25 O (v := .ref (a 11)) inX5 0 rfl rfl 3 (by decide) kf_X5_27 rfl dX5_say_25 ?_
    refine g_aload_n 28 O dX5_say_28 rfl 0 rfl ?_
    refine g_get 29 O (v := .ref (a 3)) inX5 0 rfl rfl 1 (by decide) kf_X5_16 rfl dX5_say_29 ?_
    refine g_callV 32 O (na := 1) (av := [.ref (a 3)]) (c_X3_workOut l E (sh a 11) (a 3) (r_s1_sn E a (w, rds, sd, ad) pg s0 s2 h t (ik, iw, ir) ih it) sn (nI y.1) s1.1.2.1 s1.1.2.2.1 s1.1.2.2.2.1 s1.1.2.2.2.2 lt' ng' pl' s1.2.2.2.2.1 s1.2.2.2.2.2.1 s1.2.2.2.2.2.2 y hy' z hz) kl_X5_80 km_X3_workOut kv_X3_workOut ki_X3 kc_X3_workOut (by decide +kernel) rfl (Nat.le_of_ble_eq_true rfl) (Nat.le_of_ble_eq_true rfl) (fun H9 h9 => to_s1_sn E a (w, rds, sd, ad) pg sn s0 ((nI y.1, s1.1.2.1, s1.1.2.2.1, s1.1.2.2.2.1, s1.1.2.2.2.2), lt', ng', pl', s1.2.2.2.2.1, s1.2.2.2.2.2.1, s1.2.2.2.2.2.2) s2 h t (ik, iw, ir) ih it H9 h9) 0 rfl rfl (fun s9q => ((w, rds, sd, ad), pg, sn, s0, s9q, s2, h, t, (ik, iw, ir), ih, it)) (fun _ s9q H9 _ h9 => of_s1_sn E a (w, rds, sd, ad) pg sn s0 s2 h t (ik, iw, ir) ih it s9q H9 h9) rfl (Nat.le_of_ble_eq_true rfl) dX5_say_32 (fun v9 s1b hv9 => ?_)
    obtain ⟨rfl, ho2⟩ := hv9
    refine g_aload_n 35 O dX5_say_35 rfl 0 rfl ?_
    refine g_get 36 O (v := .ref (a 4)) inX5 0 rfl rfl 2 (by decide) kf_X5_23 rfl dX5_say_36 ?_
    refine g_aload_n 39 O dX5_say_39 rfl 0 rfl ?_
    refine g_get 40 O (v := .ref (a 1)) inX5 0 rfl rfl 0 (by decide) kf_X5_10 rfl dX5_say_40 ?_
    refine g_callV 43 O (na := 1) (av := [.ref (a 1)]) (c_X3_read l E (sh a 4) (sh a 1) (r_s0_pg E a (w, rds, sd, ad) sn s1b s2 h t (ik, iw, ir) ih it) pg.1 pg.2 s0.1.1 s0.1.2.1 s0.1.2.2.1 s0.1.2.2.2.1 s0.1.2.2.2.2 s0.2.1 s0.2.2.1 s0.2.2.2.1 s0.2.2.2.2.1 s0.2.2.2.2.2.1 s0.2.2.2.2.2.2 pn (by rw [hpg]) hpn (bi_t h7)) kl_X5_84 km_X3_read kv_X3_read ki_X3 kc_X3_read (by decide +kernel) rfl (Nat.le_of_ble_eq_true rfl) (Nat.le_of_ble_eq_true rfl) (fun H9 h9 => to_s0_pg E a (w, rds, sd, ad) pg sn s0 s1b s2 h t (ik, iw, ir) ih it H9 h9) 0 rfl rfl (fun s9q => ((w, rds, sd, ad), pg, sn, s9q, s1b, s2, h, t, (ik, iw, ir), ih, it)) (fun _ s9q H9 _ h9 => of_s0_pg E a (w, rds, sd, ad) pg sn s1b s2 h t (ik, iw, ir) ih it s9q H9 h9) rfl (Nat.le_of_ble_eq_true rfl) dX5_say_43 (fun v9 s9 hv9 => ?_)
    obtain ⟨rfl, lt2, ng2, pl2, rfl, hy2⟩ := hv9
    refine g_aload_n 46 O dX5_say_46 rfl 0 rfl ?_
    refine g_get 47 O (v := .ref (a 4)) inX5 0 rfl rfl 2 (by decide) kf_X5_23 rfl dX5_say_47 ?_
    refine g_aload_n 50 O dX5_say_50 rfl 0 rfl ?_
    refine g_get 51 O (v := .ref (a 3)) inX5 0 rfl rfl 1 (by decide) kf_X5_16 rfl dX5_say_51 ?_
    refine g_callV 54 O (na := 1) (av := [.ref (a 3)]) (c_X3_workOut l E (sh a 4) (a 3) (r_s0_sn E a (w, rds, sd, ad) pg s1b s2 h t (ik, iw, ir) ih it) sn (nI (pr pg.2 pn).2.1) s0.1.2.1 s0.1.2.2.1 s0.1.2.2.2.1 s0.1.2.2.2.2 lt2 ng2 pl2 s0.2.2.2.2.1 s0.2.2.2.2.2.1 s0.2.2.2.2.2.2 (pr pg.2 pn).2 hy2 z hz) kl_X5_80 km_X3_workOut kv_X3_workOut ki_X3 kc_X3_workOut (by decide +kernel) rfl (Nat.le_of_ble_eq_true rfl) (Nat.le_of_ble_eq_true rfl) (fun H9 h9 => to_s0_sn E a (w, rds, sd, ad) pg sn ((nI (pr pg.2 pn).2.1, s0.1.2.1, s0.1.2.2.1, s0.1.2.2.2.1, s0.1.2.2.2.2), lt2, ng2, pl2, s0.2.2.2.2.1, s0.2.2.2.2.2.1, s0.2.2.2.2.2.2) s1b s2 h t (ik, iw, ir) ih it H9 h9) 0 rfl rfl (fun s9q => ((w, rds, sd, ad), pg, sn, s9q, s1b, s2, h, t, (ik, iw, ir), ih, it)) (fun _ s9q H9 _ h9 => of_s0_sn E a (w, rds, sd, ad) pg sn s1b s2 h t (ik, iw, ir) ih it s9q H9 h9) rfl (Nat.le_of_ble_eq_true rfl) dX5_say_54 (fun v9 s0b hv9 => ?_)
    obtain ⟨rfl, hs2⟩ := hv9
    refine g_aload_n 57 O dX5_say_57 rfl 0 rfl ?_
    refine g_get 58 O (v := .ref (a 1)) inX5 0 rfl rfl 0 (by decide) kf_X5_10 rfl dX5_say_58 ?_
    refine g_callV 61 O (na := 0) (av := []) (c_X2_clear l E (sh a 1) (r_pg E a (w, rds, sd, ad) sn s0b s1b s2 h t (ik, iw, ir) ih it) pg.1 pg.2 ) kl_X5_62 km_X2_clear kv_X2_clear ki_X2 kc_X2_clear (by decide +kernel) rfl (Nat.le_of_ble_eq_true rfl) (Nat.le_of_ble_eq_true rfl) (fun H9 h9 => to_pg E a (w, rds, sd, ad) pg sn s0b s1b s2 h t (ik, iw, ir) ih it H9 h9) 0 rfl rfl (fun s9q => ((w, rds, sd, ad), s9q, sn, s0b, s1b, s2, h, t, (ik, iw, ir), ih, it)) (fun _ s9q H9 _ h9 => of_pg E a (w, rds, sd, ad) sn s0b s1b s2 h t (ik, iw, ir) ih it s9q H9 h9) rfl (Nat.le_of_ble_eq_true rfl) dX5_say_61 (fun v9 s9 hv9 => ?_)
    obtain ⟨rfl, rfl⟩ := hv9
    refine g_pop 64 O dX5_say_64 rfl ?_
    refine g_aload_n 65 O dX5_say_65 rfl 0 rfl ?_
    refine g_dup 66 O dX5_say_66 rfl ?_
    refine g_get 67 O (v := .int sd) inX5 0 rfl rfl 10 (by decide) kf_X5_88 rfl dX5_say_67 ?_
    refine g_iconst 70 O (v := 1) dX5_say_70 (by decide) ?_
    refine g_iadd 71 O dX5_say_71 ?_
    refine g_put 72 O inX5 tyX5_ok nmX5 (((w, rds, sd + 1, ad), (0, pg.2), sn, s0b, s1b, s2, h, t, (ik, iw, ir), ih, it)) 0 rfl rfl 10 (by decide) kf_X5_88 rfl (rfl) (rfl) (Nat.le_of_ble_eq_true rfl) rfl dX5_say_72 ?_
    refine g_aload_n 75 O dX5_say_75 rfl 0 rfl ?_
    refine g_get 76 O (v := .ref (a 4)) inX5 0 rfl rfl 2 (by decide) kf_X5_23 rfl dX5_say_76 ?_
    refine g_getN 79 O (v := .int s0b.1.2.1) inX3 4 rfl rfl 7 (by decide) (fun _ h => h.2.2.2.1) rfl dX5_say_79 ?_
    refine g_si (nI (NR (pr pg.2 pn).2)) (hs2.2.1) ?_
    have hT := bi_t h7
    rw [hpg] at hs2 hT ⊢
    exact g_iret 82 O dX5_say_82 (by rw [hP0]; exact ⟨_, rfl, by rw [A_say, if_pos hT], by rw [NS_say, if_pos hT]; exact ⟨⟨⟨hw, hw0⟩, rfl, rfl, had, had60⟩, ⟨rfl, Nat.zero_le _, fun k hk => absurd hk (Nat.not_lt_zero _)⟩, hz, hs2, ho2, hh, ht, hi⟩⟩)
  · -- not taken
    refine g_bipush 10 O (v := (-103)) dX5_say_10 (by decide) ?_
    exact g_iret 12 O dX5_say_12 (by rw [hP0]; exact ⟨_, rfl, by rw [A_say, if_neg (by rw [hpg] at h7; rw [bi_f h7]; decide)], by rw [NS_say, if_neg (by rw [hpg] at h7; show ¬ isSay pc pn = true; rw [bi_f h7]; decide)]; exact ⟨⟨⟨hw, hw0⟩, rfl, rfl, had, had60⟩, ⟨hpg, hpn, hpc⟩, hz, hs, ho, hh, ht, hi⟩⟩)

set_option maxRecDepth 100000 in
set_option maxHeartbeats 4000000 in
theorem c_X5_senses (l : Launch) (E : Ev) (a : Nat → Nat) (w rds sd ad : Int32) (pg : Pc) (sn : Nat → Int32) (s0 s1 s2 : Sc) (h : Hc) (t : Tc) (ik iw ir : Int32) (ih : Hc) (it : Tc) (z : Nat → Nat) (y : Sy) (hs : SyA s0 z y) (hz : SnW sn z) (o : Sy) (ho : SyA s1 z o) (hr : Hr) (hh : HrW h hr) (tl : Tl) (ht : TlW t tl) (pn : Nat) (pc : Nat → Int32) (hpg : pg = (nI pn, pc)) (hpn : pn ≤ 14) (hpc : ∀ k, k < pn → 32 ≤ pc k ∧ pc k ≤ 126) (wn : Nat) (hw : w = nI wn) (hw0 : wn < 64) (adn : Nat) (had : ad = nI adn) (had60 : adn ≤ 60) (im : Bool × Nat × Int32 × Hr × Tl) (hi : RI (ik, iw, ir) ih it im) : Ctr l yX5_senses cX5_senses 3 (some .int) 5 127 E (wX E a) [.ref (a 0)] (((w, rds, sd, ad), pg, sn, s0, s1, s2, h, t, (ik, iw, ir), ih, it)) (pI (fun r x => r = A_senses (pn, pc) ∧ RX x (NS_senses ((wn, rds, sd, adn), (pn, pc), z, y, o, hr, tl, im)))) := by
  refine Ctr.of' (by decide +kernel) (Nat.le_of_ble_eq_true rfl) (fun X P0 hP0 O => ?_)
  refine g_sub [0] (lv' := [(0, .ref (a 0))]) rfl ?_
  refine g_aload_n 0 O dX5_senses_0 rfl 0 rfl ?_
  refine g_get 1 O (v := .ref (a 1)) inX5 0 rfl rfl 0 (by decide) kf_X5_10 rfl dX5_senses_1 ?_
  refine g_callV 4 O (na := 0) (av := []) (c_X2_isSenses l E (sh a 1) (r_pg E a (w, rds, sd, ad) sn s0 s1 s2 h t (ik, iw, ir) ih it) pg.1 pg.2 pn (by rw [hpg]) hpn) kl_X5_94 km_X2_isSenses kv_X2_isSenses ki_X2 kc_X2_isSenses (by decide +kernel) rfl (Nat.le_of_ble_eq_true rfl) (Nat.le_of_ble_eq_true rfl) (fun H9 h9 => to_pg E a (w, rds, sd, ad) pg sn s0 s1 s2 h t (ik, iw, ir) ih it H9 h9) 0 rfl rfl (fun _ => ((w, rds, sd, ad), pg, sn, s0, s1, s2, h, t, (ik, iw, ir), ih, it)) (fun _ _ H9 hp h9 => by obtain ⟨-, rfl⟩ := hp; exact of_pg E a (w, rds, sd, ad) sn s0 s1 s2 h t (ik, iw, ir) ih it _ H9 h9) rfl (Nat.le_of_ble_eq_true rfl) dX5_senses_4 (fun v9 s9 hv9 => ?_)
  obtain ⟨rfl, rfl⟩ := hv9
  refine g_if_ne 7 O 13 dX5_senses_7 (by decide) (fun h7 => ?_) (fun h7 => ?_)
  · -- taken
    have hT : isSen pc pn = true := by rw [hpg] at h7; exact bi_t h7
    obtain ⟨rfl, hS6⟩ := isSen_n hT
    refine g_iconst 13 O (v := 0) dX5_senses_13 (by decide) ?_
    refine g_istore_n 14 O (lv' := [(1, .int 0), (0, .ref (a 0))]) dX5_senses_14 rfl (by decide) rfl ?_
    refine g_iconst 15 O (v := 0) dX5_senses_15 (by decide) ?_
    refine g_istore_n 16 O (lv' := [(2, .int 0), (1, .int 0), (0, .ref (a 0))]) dX5_senses_16 rfl (by decide) rfl ?_
    refine g_sub [0, 1, 2] (lv' := [(2, .int 0), (1, .int 0), (0, .ref (a 0))]) rfl ?_
    have L17 : ∀ (fuel : Nat) (i : Nat) (sn' : Nat → Int32) (hi6 : i ≤ 6) (hk : ∀ k, k < i → sn' k = nI (zOf pc k) ∧ zOf pc k < 6), 6 - i < fuel → G l E (wX E a) P0 X 3 (((w, rds, sd, ad), pg, sn', s0, s1, s2, h, t, (ik, iw, ir), ih, it)) 17 [(2, .int (nI i)), (1, .int (nI (cn (fun k => decide (¬ zOf pc k = k)) i))), (0, .ref (a 0))] [] := by
      intro fuel
      induction fuel with
      | zero => intro i sn' hi6 hk hfu; exact absurd hfu (Nat.not_lt_zero _)
      | succ fuel ih17 =>
        intro i sn' hi6 hk hfu
        refine g_iload_n 17 O dX5_senses_17 rfl 0 rfl ?_
        refine g_aload_n 18 O dX5_senses_18 rfl 2 rfl ?_
        refine g_get 19 O (v := .ref (a 3)) inX5 0 rfl rfl 1 (by decide) kf_X5_16 rfl dX5_senses_19 ?_
        refine g_alen 22 O (v := 6) 3 0 rfl rfl rfl dX5_senses_22 ?_
        refine g_icmp_ge 23 O 62 dX5_senses_23 (by decide) (fun h23 => ?_) (fun h23 => ?_)
        · -- taken
          have e : i = 6 := by have := ge_of_le (n := 6) (by omega) (by decide) h23; omega
          subst e
          have hz2 : SnW sn' (zOf pc) := hk
          refine g_aload_n 62 O dX5_senses_62 rfl 2 rfl ?_
          refine g_get 63 O (v := .ref (a 4)) inX5 0 rfl rfl 2 (by decide) kf_X5_23 rfl dX5_senses_63 ?_
          refine g_aload_n 66 O dX5_senses_66 rfl 2 rfl ?_
          refine g_get 67 O (v := .ref (a 3)) inX5 0 rfl rfl 1 (by decide) kf_X5_16 rfl dX5_senses_67 ?_
          refine g_callV 70 O (na := 1) (av := [.ref (a 3)]) (c_X3_workOut l E (sh a 4) (a 3) (r_s0_sn E a (w, rds, sd, ad) pg s1 s2 h t (ik, iw, ir) ih it) sn' s0.1.1 s0.1.2.1 s0.1.2.2.1 s0.1.2.2.2.1 s0.1.2.2.2.2 s0.2.1 s0.2.2.1 s0.2.2.2.1 s0.2.2.2.2.1 s0.2.2.2.2.2.1 s0.2.2.2.2.2.2 y hs.1 (zOf pc) hz2) kl_X5_80 km_X3_workOut kv_X3_workOut ki_X3 kc_X3_workOut (by decide +kernel) rfl (Nat.le_of_ble_eq_true rfl) (Nat.le_of_ble_eq_true rfl) (fun H9 h9 => to_s0_sn E a (w, rds, sd, ad) pg sn' s0 s1 s2 h t (ik, iw, ir) ih it H9 h9) 0 rfl rfl (fun s9q => ((w, rds, sd, ad), pg, sn', s9q, s1, s2, h, t, (ik, iw, ir), ih, it)) (fun _ s9q H9 _ h9 => of_s0_sn E a (w, rds, sd, ad) pg sn' s1 s2 h t (ik, iw, ir) ih it s9q H9 h9) rfl (Nat.le_of_ble_eq_true rfl) dX5_senses_70 (fun v9 s0b hv9 => ?_)
          obtain ⟨rfl, hs2⟩ := hv9
          refine g_aload_n 73 O dX5_senses_73 rfl 2 rfl ?_
          refine g_get 74 O (v := .ref (a 11)) inX5 0 rfl rfl 3 (by decide) kf_X5_27 rfl dX5_senses_74 ?_
          refine g_aload_n 77 O dX5_senses_77 rfl 2 rfl ?_
          refine g_get 78 O (v := .ref (a 3)) inX5 0 rfl rfl 1 (by decide) kf_X5_16 rfl dX5_senses_78 ?_
          refine g_callV 81 O (na := 1) (av := [.ref (a 3)]) (c_X3_workOut l E (sh a 11) (a 3) (r_s1_sn E a (w, rds, sd, ad) pg s0b s2 h t (ik, iw, ir) ih it) sn' s1.1.1 s1.1.2.1 s1.1.2.2.1 s1.1.2.2.2.1 s1.1.2.2.2.2 s1.2.1 s1.2.2.1 s1.2.2.2.1 s1.2.2.2.2.1 s1.2.2.2.2.2.1 s1.2.2.2.2.2.2 o ho.1 (zOf pc) hz2) kl_X5_80 km_X3_workOut kv_X3_workOut ki_X3 kc_X3_workOut (by decide +kernel) rfl (Nat.le_of_ble_eq_true rfl) (Nat.le_of_ble_eq_true rfl) (fun H9 h9 => to_s1_sn E a (w, rds, sd, ad) pg sn' s0b s1 s2 h t (ik, iw, ir) ih it H9 h9) 0 rfl rfl (fun s9q => ((w, rds, sd, ad), pg, sn', s0b, s9q, s2, h, t, (ik, iw, ir), ih, it)) (fun _ s9q H9 _ h9 => of_s1_sn E a (w, rds, sd, ad) pg sn' s0b s2 h t (ik, iw, ir) ih it s9q H9 h9) rfl (Nat.le_of_ble_eq_true rfl) dX5_senses_81 (fun v9 s1b hv9 => ?_)
          obtain ⟨rfl, ho2⟩ := hv9
          refine g_aload_n 84 O dX5_senses_84 rfl 2 rfl ?_
          refine g_get 85 O (v := .ref (a 1)) inX5 0 rfl rfl 0 (by decide) kf_X5_10 rfl dX5_senses_85 ?_
          refine g_callV 88 O (na := 0) (av := []) (c_X2_clear l E (sh a 1) (r_pg E a (w, rds, sd, ad) sn' s0b s1b s2 h t (ik, iw, ir) ih it) pg.1 pg.2 ) kl_X5_62 km_X2_clear kv_X2_clear ki_X2 kc_X2_clear (by decide +kernel) rfl (Nat.le_of_ble_eq_true rfl) (Nat.le_of_ble_eq_true rfl) (fun H9 h9 => to_pg E a (w, rds, sd, ad) pg sn' s0b s1b s2 h t (ik, iw, ir) ih it H9 h9) 0 rfl rfl (fun s9q => ((w, rds, sd, ad), s9q, sn', s0b, s1b, s2, h, t, (ik, iw, ir), ih, it)) (fun _ s9q H9 _ h9 => of_pg E a (w, rds, sd, ad) sn' s0b s1b s2 h t (ik, iw, ir) ih it s9q H9 h9) rfl (Nat.le_of_ble_eq_true rfl) dX5_senses_88 (fun v9 s9 hv9 => ?_)
          obtain ⟨rfl, rfl⟩ := hv9
          refine g_pop 91 O dX5_senses_91 rfl ?_
          refine g_iload_n 92 O dX5_senses_92 rfl 1 rfl ?_
          exact g_iret 93 O dX5_senses_93 (by rw [hP0]; exact ⟨_, rfl, by rw [A_senses, if_pos hT], by rw [NS_senses, if_pos hT]; exact ⟨⟨⟨hw, hw0⟩, rfl, rfl, had, had60⟩, ⟨by rw [hpg]; rfl, Nat.zero_le _, fun k hk => absurd hk (Nat.not_lt_zero _)⟩, hz2, hs2, ho2, hh, ht, hi⟩⟩)
        · -- not taken
          have hlt : i < 6 := lt_of_nge (n := 6) (by omega) h23
          refine g_aload_n 26 O dX5_senses_26 rfl 2 rfl ?_
          refine g_get 27 O (v := .ref (a 3)) inX5 0 rfl rfl 1 (by decide) kf_X5_16 rfl dX5_senses_27 ?_
          refine g_iload_n 30 O dX5_senses_30 rfl 0 rfl ?_
          refine g_aload_n 31 O dX5_senses_31 rfl 2 rfl ?_
          refine g_get 32 O (v := .ref (a 1)) inX5 0 rfl rfl 0 (by decide) kf_X5_10 rfl dX5_senses_32 ?_
          refine g_iload_n 35 O dX5_senses_35 rfl 0 rfl ?_
          refine g_callV 36 O (na := 1) (av := [.int (nI i)]) (c_X2_codeAt l E (sh a 1) (r_pg E a (w, rds, sd, ad) sn' s0 s1 s2 h t (ik, iw, ir) ih it) pg.1 pg.2 (nI i) 6 i (by rw [hpg]) (by decide) rfl hlt) kl_X5_97 km_X2_codeAt kv_X2_codeAt ki_X2 kc_X2_codeAt (by decide +kernel) rfl (Nat.le_of_ble_eq_true rfl) (Nat.le_of_ble_eq_true rfl) (fun H9 h9 => to_pg E a (w, rds, sd, ad) pg sn' s0 s1 s2 h t (ik, iw, ir) ih it H9 h9) 0 rfl rfl (fun _ => ((w, rds, sd, ad), pg, sn', s0, s1, s2, h, t, (ik, iw, ir), ih, it)) (fun _ _ H9 hp h9 => by obtain ⟨-, rfl⟩ := hp; exact of_pg E a (w, rds, sd, ad) sn' s0 s1 s2 h t (ik, iw, ir) ih it _ H9 h9) rfl (Nat.le_of_ble_eq_true rfl) dX5_senses_36 (fun v9 s9 hv9 => ?_)
          obtain ⟨rfl, rfl⟩ := hv9
          refine g_bipush 39 O (v := 48) dX5_senses_39 (by decide) ?_
          refine g_isub 41 O dX5_senses_41 ?_
          refine g_si (nI (zOf pc i)) (by rw [hpg]; exact (hS6 i hlt).1) ?_
          refine g_iast 42 O (((w, rds, sd, ad), pg, upd sn' i (nI (zOf pc i)), s0, s1, s2, h, t, (ik, iw, ir), ih, it)) 3 i rfl (rfl) (hlt) (by decide) rfl dX5_senses_42 ?_
          refine g_aload_n 43 O dX5_senses_43 rfl 2 rfl ?_
          refine g_get 44 O (v := .ref (a 3)) inX5 0 rfl rfl 1 (by decide) kf_X5_16 rfl dX5_senses_44 ?_
          refine g_iload_n 47 O dX5_senses_47 rfl 0 rfl ?_
          refine g_iald 48 O 3 i rfl (rfl) (hlt) (by decide) dX5_senses_48 ?_
          refine g_si (nI (zOf pc i)) (upd_s _ _ _) ?_
          refine g_iload_n 49 O dX5_senses_49 rfl 0 rfl ?_
          refine g_icmp_eq 50 O 56 dX5_senses_50 (by decide) (fun h50 => ?_) (fun h50 => ?_)
          · -- taken
            have hne : decide (¬ zOf pc i = i) = false := decide_eq_false (fun q => q ((nI_eq (by have := (hS6 i hlt).2; omega) (by omega)).mp h50))
            rw [show (nI (cn (fun k => decide (¬ zOf pc k = k)) i) : Int32) = nI (cn (fun k => decide (¬ zOf pc k = k)) (i + 1)) from cn_f' (p := (fun k => decide (¬ zOf pc k = k))) hne]
            refine g_iinc 56 O (v := nI (i + 1)) (q := 0) (lv' := [(2, .int (nI (i + 1))), (1, .int (nI (cn (fun k => decide (¬ zOf pc k = k)) (i + 1)))), (0, .ref (a 0))]) dX5_senses_56 rfl (nI_1 i) (by decide) rfl ?_
            refine g_goto 59 O 17 dX5_senses_59 (by decide) ?_
            refine g_sub [0, 1, 2] (lv' := [(2, .int (nI (i + 1))), (1, .int (nI (cn (fun k => decide (¬ zOf pc k = k)) (i + 1)))), (0, .ref (a 0))]) rfl ?_
            exact ih17 (i + 1) (upd sn' i (nI (zOf pc i))) (by omega) (fun k h => by
            rcases Nat.lt_or_ge k i with q | q
            · rw [upd_n _ _ (by omega : k ≠ i)]; exact hk k q
            · have e : k = i := by omega
              subst e; rw [upd_s]; exact ⟨rfl, (hS6 k hlt).2⟩) (by omega)
          · -- not taken
            have hne : decide (¬ zOf pc i = i) = true := decide_eq_true (fun q => h50 (by rw [q]))
            refine g_iinc 53 O (v := nI (cn (fun k => decide (¬ zOf pc k = k)) (i + 1))) (q := 1) (lv' := [(1, .int (nI (cn (fun k => decide (¬ zOf pc k = k)) (i + 1)))), (2, .int (nI i)), (0, .ref (a 0))]) dX5_senses_53 rfl (cn_t (p := (fun k => decide (¬ zOf pc k = k))) hne) (by decide) rfl ?_
            refine g_iinc 56 O (v := nI (i + 1)) (q := 1) (lv' := [(2, .int (nI (i + 1))), (1, .int (nI (cn (fun k => decide (¬ zOf pc k = k)) (i + 1)))), (0, .ref (a 0))]) dX5_senses_56 rfl (nI_1 i) (by decide) rfl ?_
            refine g_goto 59 O 17 dX5_senses_59 (by decide) ?_
            refine g_sub [0, 1, 2] (lv' := [(2, .int (nI (i + 1))), (1, .int (nI (cn (fun k => decide (¬ zOf pc k = k)) (i + 1)))), (0, .ref (a 0))]) rfl ?_
            exact ih17 (i + 1) (upd sn' i (nI (zOf pc i))) (by omega) (fun k h => by
            rcases Nat.lt_or_ge k i with q | q
            · rw [upd_n _ _ (by omega : k ≠ i)]; exact hk k q
            · have e : k = i := by omega
              subst e; rw [upd_s]; exact ⟨rfl, (hS6 k hlt).2⟩) (by omega)
    exact L17 _ 0 sn (Nat.zero_le _) (fun k h => absurd h (Nat.not_lt_zero _)) (Nat.lt_succ_self _)
  · -- not taken
    refine g_bipush 10 O (v := (-103)) dX5_senses_10 (by decide) ?_
    exact g_iret 12 O dX5_senses_12 (by rw [hP0]; exact ⟨_, rfl, by rw [A_senses, if_neg (by rw [hpg] at h7; show ¬ isSen pc pn = true; rw [bi_f h7]; decide)], by rw [NS_senses, if_neg (by rw [hpg] at h7; show ¬ isSen pc pn = true; rw [bi_f h7]; decide)]; exact ⟨⟨⟨hw, hw0⟩, rfl, rfl, had, had60⟩, ⟨hpg, hpn, hpc⟩, hz, hs, ho, hh, ht, hi⟩⟩)

set_option maxRecDepth 100000 in
set_option maxHeartbeats 4000000 in
theorem c_X5_set (l : Launch) (E : Ev) (a : Nat → Nat) (w rds sd ad : Int32) (pg : Pc) (sn : Nat → Int32) (s0 s1 s2 : Sc) (h : Hc) (t : Tc) (ik iw ir : Int32) (ih : Hc) (it : Tc) (p0 p1 : Int32) (z : Nat → Nat) (y : Sy) (hs : SyA s0 z y) (hz : SnW sn z) (o : Sy) (ho : SyA s1 z o) (hr : Hr) (hh : HrW h hr) (tl : Tl) (ht : TlW t tl) (pn : Nat) (pc : Nat → Int32) (hpg : pg = (nI pn, pc)) (hpn : pn ≤ 14) (hpc : ∀ k, k < pn → 32 ≤ pc k ∧ pc k ≤ 126) (wn : Nat) (hw : w = nI wn) (hw0 : wn < 64) (adn : Nat) (had : ad = nI adn) (had60 : adn ≤ 60) (im : Bool × Nat × Int32 × Hr × Tl) (hi : RI (ik, iw, ir) ih it im) : Ctr l yX5_set cX5_set 4 (some .int) 1 22 E (wX E a) [.ref (a 0), .int p0, .int p1] (((w, rds, sd, ad), pg, sn, s0, s1, s2, h, t, (ik, iw, ir), ih, it)) (pI (fun r x => r = A_set wn p0 p1 ∧ RX x (NS_set ((wn, rds, sd, adn), (pn, pc), z, y, o, hr, tl, im) p0 p1))) := by
  refine Ctr.of' (by decide +kernel) (Nat.le_of_ble_eq_true rfl) (fun X P0 hP0 O => ?_)
  refine g_sub [0, 1, 2] (lv' := [(0, .ref (a 0)), (1, .int p0), (2, .int p1)]) rfl ?_
  refine g_iload_n 0 O dX5_set_0 rfl 1 rfl ?_
  refine g_callS 1 O (na := 1) (av := [.int p0]) (c_X5_isFact l E _ _ p0) kl_X5_133 ks_X5_isFact ki_X5 kc_X5_isFact (by decide +kernel) rfl (Nat.le_of_ble_eq_true rfl) (Nat.le_of_ble_eq_true rfl) (fun _ h => h) (fun s => s) (fun _ _ _ _ h => h) rfl (Nat.le_of_ble_eq_true rfl) dX5_set_1 (fun v9 s9 hv9 => ?_)
  obtain ⟨rfl, rfl⟩ := hv9
  refine g_if_ne 4 O 10 dX5_set_4 (by decide) (fun h4 => ?_) (fun h4 => ?_)
  · -- taken
    refine g_iload_n 10 O dX5_set_10 rfl 2 rfl ?_
    refine g_callS 11 O (na := 1) (av := [.int p1]) (c_X5_isValue l E _ _ p1) kl_X5_136 ks_X5_isValue ki_X5 kc_X5_isValue (by decide +kernel) rfl (Nat.le_of_ble_eq_true rfl) (Nat.le_of_ble_eq_true rfl) (fun _ h => h) (fun s => s) (fun _ _ _ _ h => h) rfl (Nat.le_of_ble_eq_true rfl) dX5_set_11 (fun v9 s9 hv9 => ?_)
    obtain ⟨rfl, rfl⟩ := hv9
    refine g_if_ne 14 O 20 dX5_set_14 (by decide) (fun h14 => ?_) (fun h14 => ?_)
    · -- taken
      obtain ⟨k, hk0, hk, hkc⟩ := rng_of (n := 6) (by decide) (ite_t h4)
      obtain ⟨v, hv0, hv, hvc⟩ := val_of (ite_t h14)
      refine g_aload_n 20 O dX5_set_20 rfl 0 rfl ?_
      refine g_get 21 O (v := .int w) inX5 0 rfl rfl 8 (by decide) kf_X5_124 rfl dX5_set_21 ?_
      refine g_i2l 24 O dX5_set_24 ?_
      refine g_iload_n 25 O dX5_set_25 rfl 1 rfl ?_
      refine g_callS 26 O (na := 2) (av := [.long w.toInt64, .int p0]) (c_X5_bitOf l E _ _ w.toInt64 p0) kl_X5_117 ks_X5_bitOf ki_X5 kc_X5_bitOf (by decide +kernel) rfl (Nat.le_of_ble_eq_true rfl) (Nat.le_of_ble_eq_true rfl) (fun _ h => h) (fun s => s) (fun _ _ _ _ h => h) rfl (Nat.le_of_ble_eq_true rfl) dX5_set_26 (fun v9 s9 hv9 => ?_)
      obtain ⟨rfl, rfl⟩ := hv9
      refine g_si (nI (bitN wn k)) (by rw [hw, hk]; exact bitN_ok wn hw0 k hk0) ?_
      refine g_istore_n 29 O (lv' := [(3, .int (nI (bitN wn k))), (0, .ref (a 0)), (1, .int p0), (2, .int p1)]) dX5_set_29 rfl (by decide) rfl ?_
      refine g_aload_n 30 O dX5_set_30 rfl 1 rfl ?_
      refine g_aload_n 31 O dX5_set_31 rfl 1 rfl ?_
      refine g_get 32 O (v := .int w) inX5 0 rfl rfl 8 (by decide) kf_X5_124 rfl dX5_set_32 ?_
      refine g_iload_n 35 O dX5_set_35 rfl 2 rfl ?_
      refine g_iload_n 36 O dX5_set_36 rfl 3 rfl ?_
      refine g_callS 37 O (na := 3) (av := [.int w, .int p0, .int p1]) (c_X5_withFact l E _ _ w p0 p1) kl_X5_139 ks_X5_withFact ki_X5 kc_X5_withFact (by decide +kernel) rfl (Nat.le_of_ble_eq_true rfl) (Nat.le_of_ble_eq_true rfl) (fun _ h => h) (fun s => s) (fun _ _ _ _ h => h) rfl (Nat.le_of_ble_eq_true rfl) dX5_set_37 (fun v9 s9 hv9 => ?_)
      obtain ⟨rfl, rfl⟩ := hv9
      refine g_si (nI (wN wn k v)) (by rw [hw, hk, hv]; exact (wN_ok wn hw0 k hk0 v hv0).1) ?_
      refine g_put 40 O inX5 tyX5_ok nmX5 (((nI (wN wn k v), rds, sd, ad), pg, sn, s0, s1, s2, h, t, (ik, iw, ir), ih, it)) 0 rfl rfl 8 (by decide) kf_X5_124 rfl (rfl) (rfl) (Nat.le_of_ble_eq_true rfl) rfl dX5_set_40 ?_
      refine g_iload_n 43 O dX5_set_43 rfl 0 rfl ?_
      exact g_iret 44 O dX5_set_44 (by rw [hP0]; exact ⟨_, rfl, by rw [A_set, if_pos (ite_t h4), if_pos (ite_t h14), hkc], by rw [NS_set, N_set, if_pos ⟨ite_t h4, ite_t h14⟩, hkc, hvc]; exact ⟨⟨⟨rfl, (wN_ok wn hw0 k hk0 v hv0).2⟩, rfl, rfl, had, had60⟩, ⟨hpg, hpn, hpc⟩, hz, hs, ho, hh, ht, hi⟩⟩)
    · -- not taken
      refine g_bipush 17 O (v := (-102)) dX5_set_17 (by decide) ?_
      exact g_iret 19 O dX5_set_19 (by rw [hP0]; exact ⟨_, rfl, by rw [A_set, if_pos (ite_t h4), if_neg (ite_f h14)], by rw [NS_set, N_set, if_neg (fun q => ite_f h14 q.2)]; exact ⟨⟨⟨hw, hw0⟩, rfl, rfl, had, had60⟩, ⟨hpg, hpn, hpc⟩, hz, hs, ho, hh, ht, hi⟩⟩)
  · -- not taken
    refine g_bipush 7 O (v := (-101)) dX5_set_7 (by decide) ?_
    exact g_iret 9 O dX5_set_9 (by rw [hP0]; exact ⟨_, rfl, by rw [A_set, if_neg (ite_f h4)], by rw [NS_set, N_set, if_neg (fun q => ite_f h4 q.1)]; exact ⟨⟨⟨hw, hw0⟩, rfl, rfl, had, had60⟩, ⟨hpg, hpn, hpc⟩, hz, hs, ho, hh, ht, hi⟩⟩)

theorem HrW_add {h : Hc} {y : Hr} (hh : HrW h y) (h4 : y.1 < 4) {p0 p1 p2 : Int32} {k f v : Nat} (hk : p0 = nI k) (hk4 : k ≤ 4) (hf : p1 = nI f) (hf6 : f < 6) (hv : p2 = nI v) (hv2 : v < 2) : HrW (nI (y.1 + 1), upd h.2.1 y.1 p0, upd h.2.2.1 y.1 p1, upd h.2.2.2.1 y.1 p2, upd h.2.2.2.2 y.1 0) (y.1 + 1, (fun j => if j = y.1 then k else y.2.1 j), (fun j => if j = y.1 then f else y.2.2.1 j), (fun j => if j = y.1 then v else y.2.2.2.1 j), upd y.2.2.2.2 y.1 0) := by
  refine ⟨rfl, h4, fun j hj => ?_⟩
  have hj : j < y.1 + 1 := hj
  show (upd h.2.1 y.1 p0 j = nI (if j = y.1 then k else y.2.1 j) ∧ (if j = y.1 then k else y.2.1 j) ≤ 4) ∧ (upd h.2.2.1 y.1 p1 j = nI (if j = y.1 then f else y.2.2.1 j) ∧ (if j = y.1 then f else y.2.2.1 j) < 6) ∧ (upd h.2.2.2.1 y.1 p2 j = nI (if j = y.1 then v else y.2.2.2.1 j) ∧ (if j = y.1 then v else y.2.2.2.1 j) < 2) ∧ upd h.2.2.2.2 y.1 0 j = upd y.2.2.2.2 y.1 0 j
  by_cases e : j = y.1
  · subst e
    simp only [upd_s, if_true]
    exact ⟨⟨hk, hk4⟩, ⟨hf, hf6⟩, ⟨hv, hv2⟩, trivial⟩
  · simp only [upd_n _ _ e, e, if_false]
    exact hh.2.2 j (by omega)

set_option maxRecDepth 100000 in
set_option maxHeartbeats 4000000 in
theorem c_X5_hearer (l : Launch) (E : Ev) (a : Nat → Nat) (w rds sd ad : Int32) (pg : Pc) (sn : Nat → Int32) (s0 s1 s2 : Sc) (h : Hc) (t : Tc) (ik iw ir : Int32) (ih : Hc) (it : Tc) (p0 p1 p2 : Int32) (z : Nat → Nat) (y : Sy) (hs : SyA s0 z y) (hz : SnW sn z) (o : Sy) (ho : SyA s1 z o) (hr : Hr) (hh : HrW h hr) (tl : Tl) (ht : TlW t tl) (pn : Nat) (pc : Nat → Int32) (hpg : pg = (nI pn, pc)) (hpn : pn ≤ 14) (hpc : ∀ k, k < pn → 32 ≤ pc k ∧ pc k ≤ 126) (wn : Nat) (hw : w = nI wn) (hw0 : wn < 64) (adn : Nat) (had : ad = nI adn) (had60 : adn ≤ 60) (im : Bool × Nat × Int32 × Hr × Tl) (hi : RI (ik, iw, ir) ih it im) : Ctr l yX5_hearer cX5_hearer 4 (some .int) 1 23 E (wX E a) [.ref (a 0), .int p0, .int p1, .int p2] (((w, rds, sd, ad), pg, sn, s0, s1, s2, h, t, (ik, iw, ir), ih, it)) (pI (fun r x => r = A_hearer hr p0 p1 p2 ∧ RX x (NS_hearer ((wn, rds, sd, adn), (pn, pc), z, y, o, hr, tl, im) p0 p1 p2))) := by
  refine Ctr.of' (by decide +kernel) (Nat.le_of_ble_eq_true rfl) (fun X P0 hP0 O => ?_)
  refine g_sub [0, 1, 2, 3] (lv' := [(0, .ref (a 0)), (1, .int p0), (2, .int p1), (3, .int p2)]) rfl ?_
  refine g_iload_n 0 O dX5_hearer_0 rfl 2 rfl ?_
  refine g_callS 1 O (na := 1) (av := [.int p1]) (c_X5_isFact l E _ _ p1) kl_X5_133 ks_X5_isFact ki_X5 kc_X5_isFact (by decide +kernel) rfl (Nat.le_of_ble_eq_true rfl) (Nat.le_of_ble_eq_true rfl) (fun _ h => h) (fun s => s) (fun _ _ _ _ h => h) rfl (Nat.le_of_ble_eq_true rfl) dX5_hearer_1 (fun v9 s9 hv9 => ?_)
  obtain ⟨rfl, rfl⟩ := hv9
  refine g_if_ne 4 O 10 dX5_hearer_4 (by decide) (fun h4 => ?_) (fun h4 => ?_)
  · -- taken
    refine g_iload_n 10 O dX5_hearer_10 rfl 1 rfl ?_
    refine g_callS 11 O (na := 1) (av := [.int p0]) (c_X5_isKind l E _ _ p0) kl_X5_143 ks_X5_isKind ki_X5 kc_X5_isKind (by decide +kernel) rfl (Nat.le_of_ble_eq_true rfl) (Nat.le_of_ble_eq_true rfl) (fun _ h => h) (fun s => s) (fun _ _ _ _ h => h) rfl (Nat.le_of_ble_eq_true rfl) dX5_hearer_11 (fun v9 s9 hv9 => ?_)
    obtain ⟨rfl, rfl⟩ := hv9
    refine g_if_eq 14 O 24 dX5_hearer_14 (by decide) (fun h14 => ?_) (fun h14 => ?_)
    · -- taken
      refine g_bipush 24 O (v := (-102)) dX5_hearer_24 (by decide) ?_
      exact g_iret 26 O dX5_hearer_26 (by rw [hP0]; exact ⟨_, rfl, by rw [A_hearer, if_pos (ite_t h4), if_neg (fun q => ite_f h14 q.1)], by rw [NS_hearer, N_hearer, if_neg (fun q => (fun q => ite_f h14 q.1) q.2.1)]; exact ⟨⟨⟨hw, hw0⟩, rfl, rfl, had, had60⟩, ⟨hpg, hpn, hpc⟩, hz, hs, ho, hh, ht, hi⟩⟩)
    · -- not taken
      refine g_iload_n 17 O dX5_hearer_17 rfl 3 rfl ?_
      refine g_callS 18 O (na := 1) (av := [.int p2]) (c_X5_isValue l E _ _ p2) kl_X5_136 ks_X5_isValue ki_X5 kc_X5_isValue (by decide +kernel) rfl (Nat.le_of_ble_eq_true rfl) (Nat.le_of_ble_eq_true rfl) (fun _ h => h) (fun s => s) (fun _ _ _ _ h => h) rfl (Nat.le_of_ble_eq_true rfl) dX5_hearer_18 (fun v9 s9 hv9 => ?_)
      obtain ⟨rfl, rfl⟩ := hv9
      refine g_if_ne 21 O 27 dX5_hearer_21 (by decide) (fun h21 => ?_) (fun h21 => ?_)
      · -- taken
        refine g_aload_n 27 O dX5_hearer_27 rfl 0 rfl ?_
        refine g_get 28 O (v := .ref (a 25)) inX5 0 rfl rfl 5 (by decide) kf_X5_36 rfl dX5_hearer_28 ?_
        refine g_iload_n 31 O dX5_hearer_31 rfl 1 rfl ?_
        refine g_iload_n 32 O dX5_hearer_32 rfl 2 rfl ?_
        refine g_iload_n 33 O dX5_hearer_33 rfl 3 rfl ?_
        refine g_callV 34 O (na := 3) (av := [.int p0, .int p1, .int p2]) (c_X0_join l E (sh a 25) (r_h E a (w, rds, sd, ad) pg sn s0 s1 s2 t (ik, iw, ir) ih it) h.1 h.2.1 h.2.2.1 h.2.2.2.1 h.2.2.2.2 p0 p1 p2 hr.1 hh.1 hh.2.1) kl_X5_146 km_X0_join kv_X0_join ki_X0 kc_X0_join (by decide +kernel) rfl (Nat.le_of_ble_eq_true rfl) (Nat.le_of_ble_eq_true rfl) (fun H9 h9 => to_h E a (w, rds, sd, ad) pg sn s0 s1 s2 h t (ik, iw, ir) ih it H9 h9) 0 rfl rfl (fun s9q => ((w, rds, sd, ad), pg, sn, s0, s1, s2, s9q, t, (ik, iw, ir), ih, it)) (fun _ s9q H9 _ h9 => of_h E a (w, rds, sd, ad) pg sn s0 s1 s2 t (ik, iw, ir) ih it s9q H9 h9) rfl (Nat.le_of_ble_eq_true rfl) dX5_hearer_34 (fun v9 s9 hv9 => ?_)
        rcases hv9 with ⟨hge, rfl, rfl⟩ | ⟨hlt, rfl, rfl⟩
        · -- alt
          refine g_if_eq 37 O 52 dX5_hearer_37 (by decide) (fun h37 => ?_) (fun h37 => False.elim (absurd h37 (by decide)))
          refine g_bipush 52 O (v := (-104)) dX5_hearer_52 (by decide) ?_
          exact g_iret 54 O dX5_hearer_54 (by rw [hP0]; exact ⟨_, rfl, by rw [A_hearer, if_pos (ite_t h4), if_pos ⟨ite_t h14, ite_t h21⟩, if_neg (by omega)], by rw [NS_hearer, N_hearer, if_neg (fun q => absurd q.2.2 (by show ¬ hr.1 < 4; omega))]; exact ⟨⟨⟨hw, hw0⟩, rfl, rfl, had, had60⟩, ⟨hpg, hpn, hpc⟩, hz, hs, ho, hh, ht, hi⟩⟩)
        · -- alt
          refine g_if_eq 37 O 52 dX5_hearer_37 (by decide) (fun h37 => False.elim (absurd h37 (by decide))) (fun h37 => ?_)
          refine g_aload_n 40 O dX5_hearer_40 rfl 0 rfl ?_
          refine g_get 41 O (v := .ref (a 25)) inX5 0 rfl rfl 5 (by decide) kf_X5_36 rfl dX5_hearer_41 ?_
          refine g_getN 44 O (v := .int (nI (hr.1 + 1))) inX0 25 rfl rfl 4 (by decide) (fun _ h => h.2.2.2.2.2.2.2.1) rfl dX5_hearer_44 ?_
          refine g_iconst 47 O (v := 1) dX5_hearer_47 (by decide) ?_
          refine g_isub 48 O dX5_hearer_48 ?_
          refine g_si (nI hr.1) (pk_sub (a := hr.1 + 1) (b := 1) (by omega)) ?_
          refine g_goto 49 O 54 dX5_hearer_49 (by decide) ?_
          obtain ⟨k, hk4, hk, hkc⟩ := rng_le (n := 4) (by decide) (ite_t h14)
          obtain ⟨f, hf0, hf, hfc⟩ := rng_of (n := 6) (by decide) (ite_t h4)
          obtain ⟨v, hv0, hv, hvc⟩ := val_of (ite_t h21)
          exact g_iret 54 O dX5_hearer_54 (by rw [hP0]; exact ⟨_, rfl, by rw [A_hearer, if_pos (ite_t h4), if_pos ⟨ite_t h14, ite_t h21⟩, if_pos hlt], by rw [NS_hearer, N_hearer, if_pos ⟨ite_t h4, ⟨ite_t h14, ite_t h21⟩, hlt⟩, hkc, hfc, hvc]; exact ⟨⟨⟨hw, hw0⟩, rfl, rfl, had, had60⟩, ⟨hpg, hpn, hpc⟩, hz, hs, ho, HrW_add hh hlt hk hk4 hf hf0 hv hv0, ht, hi⟩⟩)
      · -- not taken
        refine g_bipush 24 O (v := (-102)) dX5_hearer_24 (by decide) ?_
        exact g_iret 26 O dX5_hearer_26 (by rw [hP0]; exact ⟨_, rfl, by rw [A_hearer, if_pos (ite_t h4), if_neg (fun q => ite_f h21 q.2)], by rw [NS_hearer, N_hearer, if_neg (fun q => (fun q => ite_f h21 q.2) q.2.1)]; exact ⟨⟨⟨hw, hw0⟩, rfl, rfl, had, had60⟩, ⟨hpg, hpn, hpc⟩, hz, hs, ho, hh, ht, hi⟩⟩)
  · -- not taken
    refine g_bipush 7 O (v := (-101)) dX5_hearer_7 (by decide) ?_
    exact g_iret 9 O dX5_hearer_9 (by rw [hP0]; exact ⟨_, rfl, by rw [A_hearer, if_neg (ite_f h4)], by rw [NS_hearer, N_hearer, if_neg (fun q => ite_f h4 q.1)]; exact ⟨⟨⟨hw, hw0⟩, rfl, rfl, had, had60⟩, ⟨hpg, hpn, hpc⟩, hz, hs, ho, hh, ht, hi⟩⟩)

set_option maxRecDepth 100000 in
set_option maxHeartbeats 4000000 in
theorem c_X5_act (l : Launch) (E : Ev) (a : Nat → Nat) (w rds sd ad : Int32) (pg : Pc) (sn : Nat → Int32) (s0 s1 s2 : Sc) (h : Hc) (t : Tc) (ik iw ir : Int32) (ih : Hc) (it : Tc) (p0 : Int32) (z : Nat → Nat) (y : Sy) (hs : SyA s0 z y) (hz : SnW sn z) (o : Sy) (ho : SyA s1 z o) (hr : Hr) (hh : HrW h hr) (tl : Tl) (ht : TlW t tl) (pn : Nat) (pc : Nat → Int32) (hpg : pg = (nI pn, pc)) (hpn : pn ≤ 14) (hpc : ∀ k, k < pn → 32 ≤ pc k ∧ pc k ≤ 126) (wn : Nat) (hw : w = nI wn) (hw0 : wn < 64) (adn : Nat) (had : ad = nI adn) (had60 : adn ≤ 60) (im : Bool × Nat × Int32 × Hr × Tl) (hi : RI (ik, iw, ir) ih it im) : Ctr l yX5_act cX5_act 2 (some .int) 4 91 E (wX E a) [.ref (a 0), .int p0] (((w, rds, sd, ad), pg, sn, s0, s1, s2, h, t, (ik, iw, ir), ih, it)) (pI (fun r x => r = A_act z y hr wn p0 ∧ RX x (NS_act ((wn, rds, sd, adn), (pn, pc), z, y, o, hr, tl, im) p0))) := by
  refine Ctr.of' (by decide +kernel) (Nat.le_of_ble_eq_true rfl) (fun X P0 hP0 O => ?_)
  refine g_sub [0, 1] (lv' := [(0, .ref (a 0)), (1, .int p0)]) rfl ?_
  refine g_aload_n 0 O dX5_act_0 rfl 0 rfl ?_
  refine g_get 1 O (v := .ref (a 25)) inX5 0 rfl rfl 5 (by decide) kf_X5_36 rfl dX5_act_1 ?_
  refine g_iload_n 4 O dX5_act_4 rfl 1 rfl ?_
  refine g_callV 5 O (na := 1) (av := [.int p0]) (c_X0_has l E (sh a 25) (r_h E a (w, rds, sd, ad) pg sn s0 s1 s2 t (ik, iw, ir) ih it) h.1 h.2.1 h.2.2.1 h.2.2.2.1 h.2.2.2.2 p0 hr.1 hh.1 hh.2.1) kl_X5_153 km_X0_has kv_X0_has ki_X0 kc_X0_has (by decide +kernel) rfl (Nat.le_of_ble_eq_true rfl) (Nat.le_of_ble_eq_true rfl) (fun H9 h9 => to_h E a (w, rds, sd, ad) pg sn s0 s1 s2 h t (ik, iw, ir) ih it H9 h9) 0 rfl rfl (fun _ => ((w, rds, sd, ad), pg, sn, s0, s1, s2, h, t, (ik, iw, ir), ih, it)) (fun _ _ H9 hp h9 => by obtain ⟨-, rfl⟩ := hp; exact of_h E a (w, rds, sd, ad) pg sn s0 s1 s2 t (ik, iw, ir) ih it _ H9 h9) rfl (Nat.le_of_ble_eq_true rfl) dX5_act_5 (fun v9 s9 hv9 => ?_)
  obtain ⟨rfl, rfl⟩ := hv9
  refine g_si (if okH hr p0 then 1 else 0) (by rw [hh.1]) ?_
  refine g_if_ne 8 O 14 dX5_act_8 (by decide) (fun h8 => ?_) (fun h8 => ?_)
  · -- taken
    have hh4 := hh.2.1
    obtain ⟨p, hp0, hp, hpc9⟩ := rng_of (by omega) (ite_t h8)
    refine g_aload_n 14 O dX5_act_14 rfl 0 rfl ?_
    refine g_get 15 O (v := .ref (a 4)) inX5 0 rfl rfl 2 (by decide) kf_X5_23 rfl dX5_act_15 ?_
    refine g_callV 18 O (na := 0) (av := []) (c_X3_isNone l E (sh a 4) (r_s0 E a (w, rds, sd, ad) pg sn s1 s2 h t (ik, iw, ir) ih it) s0.1.1 s0.1.2.1 s0.1.2.2.1 s0.1.2.2.2.1 s0.1.2.2.2.2 s0.2.1 s0.2.2.1 s0.2.2.2.1 s0.2.2.2.2.1 s0.2.2.2.2.2.1 s0.2.2.2.2.2.2 ) kl_X5_121 km_X3_isNone kv_X3_isNone ki_X3 kc_X3_isNone (by decide +kernel) rfl (Nat.le_of_ble_eq_true rfl) (Nat.le_of_ble_eq_true rfl) (fun H9 h9 => to_s0 E a (w, rds, sd, ad) pg sn s0 s1 s2 h t (ik, iw, ir) ih it H9 h9) 0 rfl rfl (fun _ => ((w, rds, sd, ad), pg, sn, s0, s1, s2, h, t, (ik, iw, ir), ih, it)) (fun _ _ H9 hp h9 => by obtain ⟨-, rfl⟩ := hp; exact of_s0 E a (w, rds, sd, ad) pg sn s1 s2 h t (ik, iw, ir) ih it _ H9 h9) rfl (Nat.le_of_ble_eq_true rfl) dX5_act_18 (fun v9 s9 hv9 => ?_)
    obtain ⟨rfl, rfl⟩ := hv9
    refine g_if_eq 21 O 27 dX5_act_21 (by decide) (fun h21 => ?_) (fun h21 => ?_)
    · -- taken
      have hy0 : ¬ y.1 = 0 := fun e => ite_f h21 ((sy0 hs).mpr e)
      refine g_aload_n 27 O dX5_act_27 rfl 0 rfl ?_
      refine g_iload_n 28 O dX5_act_28 rfl 1 rfl ?_
      refine g_callV 29 O (na := 1) (av := [.int p0]) (c_X5_letAct l E a w rds sd ad pg sn s0 s1 s2 h t ik iw ir ih it p0 z y hs hr hh hy0 p hp hp0 wn hw hw0) kl_X5_178 km_X5_letAct kv_X5_letAct ki_X5 kc_X5_letAct (by decide +kernel) rfl (Nat.le_of_ble_eq_true rfl) (Nat.le_of_ble_eq_true rfl) (fun _ h => h) 0 rfl rfl (fun s => s) (fun _ _ _ _ h => h) rfl (Nat.le_of_ble_eq_true rfl) dX5_act_29 (fun v9 s9 hv9 => ?_)
      obtain ⟨rfl, h2, rfl, hh2⟩ := hv9
      refine g_aload_n 32 O dX5_act_32 rfl 0 rfl ?_
      refine g_get 33 O (v := .int (nI (aw z y hr p wn))) inX5 0 rfl rfl 8 (by decide) kf_X5_124 rfl dX5_act_33 ?_
      exact g_iret 36 O dX5_act_36 (by rw [hP0]; exact ⟨_, rfl, by rw [A_act, if_pos (ite_t h8), if_neg hy0, hpc9], by rw [NS_act, N_actW, N_actH, if_pos ⟨ite_t h8, hy0⟩, if_pos ⟨ite_t h8, hy0⟩, hpc9]; exact ⟨⟨⟨rfl, bh_lt hh hp0 _ hw0⟩, rfl, rfl, had, had60⟩, ⟨hpg, hpn, hpc⟩, hz, hs, ho, hh2, ht, hi⟩⟩)
    · -- not taken
      refine g_bipush 24 O (v := (-103)) dX5_act_24 (by decide) ?_
      exact g_iret 26 O dX5_act_26 (by rw [hP0]; exact ⟨_, rfl, by rw [A_act, if_pos (ite_t h8), if_pos ((sy0 hs).mp (ite_t h21))], by rw [NS_act, N_actW, N_actH, if_neg (fun q => q.2 ((sy0 hs).mp (ite_t h21))), if_neg (fun q => q.2 ((sy0 hs).mp (ite_t h21)))]; exact ⟨⟨⟨hw, hw0⟩, rfl, rfl, had, had60⟩, ⟨hpg, hpn, hpc⟩, hz, hs, ho, hh, ht, hi⟩⟩)
  · -- not taken
    refine g_bipush 11 O (v := (-101)) dX5_act_11 (by decide) ?_
    exact g_iret 13 O dX5_act_13 (by rw [hP0]; exact ⟨_, rfl, by rw [A_act, if_neg (ite_f h8)], by rw [NS_act, N_actW, N_actH, if_neg (fun q => ite_f h8 q.1), if_neg (fun q => ite_f h8 q.1)]; exact ⟨⟨⟨hw, hw0⟩, rfl, rfl, had, had60⟩, ⟨hpg, hpn, hpc⟩, hz, hs, ho, hh, ht, hi⟩⟩)

set_option maxRecDepth 100000 in
set_option maxHeartbeats 4000000 in
theorem c_X5_round (l : Launch) (E : Ev) (a : Nat → Nat) (w rds sd ad : Int32) (pg : Pc) (sn : Nat → Int32) (s0 s1 s2 : Sc) (h : Hc) (t : Tc) (ik iw ir : Int32) (ih : Hc) (it : Tc) (z : Nat → Nat) (y : Sy) (hs : SyA s0 z y) (hz : SnW sn z) (o : Sy) (ho : SyA s1 z o) (hr : Hr) (hh : HrW h hr) (tl : Tl) (ht : TlW t tl) (pn : Nat) (pc : Nat → Int32) (hpg : pg = (nI pn, pc)) (hpn : pn ≤ 14) (hpc : ∀ k, k < pn → 32 ≤ pc k ∧ pc k ≤ 126) (wn : Nat) (hw : w = nI wn) (hw0 : wn < 64) (adn : Nat) (had : ad = nI adn) (had60 : adn ≤ 60) (im : Bool × Nat × Int32 × Hr × Tl) (hi : RI (ik, iw, ir) ih it im) : Ctr l yX5_round cX5_round 2 (some .int) 4 91 E (wX E a) [.ref (a 0)] (((w, rds, sd, ad), pg, sn, s0, s1, s2, h, t, (ik, iw, ir), ih, it)) (pI (fun r x => r = A_round z y hr wn ∧ RX x (NS_round ((wn, rds, sd, adn), (pn, pc), z, y, o, hr, tl, im)))) := by
  refine Ctr.of' (by decide +kernel) (Nat.le_of_ble_eq_true rfl) (fun X P0 hP0 O => ?_)
  refine g_sub [0] (lv' := [(0, .ref (a 0))]) rfl ?_
  refine g_aload_n 0 O dX5_round_0 rfl 0 rfl ?_
  refine g_get 1 O (v := .ref (a 4)) inX5 0 rfl rfl 2 (by decide) kf_X5_23 rfl dX5_round_1 ?_
  refine g_callV 4 O (na := 0) (av := []) (c_X3_isNone l E (sh a 4) (r_s0 E a (w, rds, sd, ad) pg sn s1 s2 h t (ik, iw, ir) ih it) s0.1.1 s0.1.2.1 s0.1.2.2.1 s0.1.2.2.2.1 s0.1.2.2.2.2 s0.2.1 s0.2.2.1 s0.2.2.2.1 s0.2.2.2.2.1 s0.2.2.2.2.2.1 s0.2.2.2.2.2.2 ) kl_X5_121 km_X3_isNone kv_X3_isNone ki_X3 kc_X3_isNone (by decide +kernel) rfl (Nat.le_of_ble_eq_true rfl) (Nat.le_of_ble_eq_true rfl) (fun H9 h9 => to_s0 E a (w, rds, sd, ad) pg sn s0 s1 s2 h t (ik, iw, ir) ih it H9 h9) 0 rfl rfl (fun _ => ((w, rds, sd, ad), pg, sn, s0, s1, s2, h, t, (ik, iw, ir), ih, it)) (fun _ _ H9 hp h9 => by obtain ⟨-, rfl⟩ := hp; exact of_s0 E a (w, rds, sd, ad) pg sn s1 s2 h t (ik, iw, ir) ih it _ H9 h9) rfl (Nat.le_of_ble_eq_true rfl) dX5_round_4 (fun v9 s9 hv9 => ?_)
  obtain ⟨rfl, rfl⟩ := hv9
  refine g_if_eq 7 O 13 dX5_round_7 (by decide) (fun h7 => ?_) (fun h7 => ?_)
  · -- taken
    have hy0 : ¬ y.1 = 0 := fun e => ite_f h7 ((sy0 hs).mpr e)
    rw [hw]
    refine g_iconst 13 O (v := 0) dX5_round_13 (by decide) ?_
    refine g_istore_n 14 O (lv' := [(1, .int 0), (0, .ref (a 0))]) dX5_round_14 rfl (by decide) rfl ?_
    refine g_sub [0, 1] (lv' := [(1, .int 0), (0, .ref (a 0))]) rfl ?_
    have L15 : ∀ (fuel : Nat) (i : Nat) (h' : Hc) (hi9 : i ≤ hr.1) (hwi : (rw2 z y hr wn i).1 < 64) (hh' : HrW h' (hr.1, hr.2.1, hr.2.2.1, hr.2.2.2.1, (rw2 z y hr wn i).2)), hr.1 - i < fuel → G l E (wX E a) P0 X 2 (((nI (rw2 z y hr wn i).1, rds, sd, ad), pg, sn, s0, s1, s2, h', t, (ik, iw, ir), ih, it)) 15 [(1, .int (nI i)), (0, .ref (a 0))] [] := by
      intro fuel
      induction fuel with
      | zero => intro i h' hi9 hwi hh' hfu; exact absurd hfu (Nat.not_lt_zero _)
      | succ fuel ih15 =>
        intro i h' hi9 hwi hh' hfu
        have hh4 := hh.2.1
        refine g_iload_n 15 O dX5_round_15 rfl 0 rfl ?_
        refine g_aload_n 16 O dX5_round_16 rfl 1 rfl ?_
        refine g_get 17 O (v := .ref (a 25)) inX5 0 rfl rfl 5 (by decide) kf_X5_36 rfl dX5_round_17 ?_
        refine g_getN 20 O (v := .int h'.1) inX0 25 rfl rfl 4 (by decide) (fun _ h => h.2.2.2.2.2.2.2.1) rfl dX5_round_20 ?_
        refine g_icmp_ge 23 O 37 dX5_round_23 (by decide) (fun h23 => ?_) (fun h23 => ?_)
        · -- taken
          have e : i = hr.1 := by rw [hh'.1] at h23; have := ge_of_le (n := hr.1) (by omega) (by omega) h23; omega
          refine g_aload_n 37 O dX5_round_37 rfl 1 rfl ?_
          refine g_dup 38 O dX5_round_38 rfl ?_
          refine g_get 39 O (v := .int rds) inX5 0 rfl rfl 9 (by decide) kf_X5_182 rfl dX5_round_39 ?_
          refine g_iconst 42 O (v := 1) dX5_round_42 (by decide) ?_
          refine g_iadd 43 O dX5_round_43 ?_
          refine g_put 44 O inX5 tyX5_ok nmX5 (((nI (rw2 z y hr wn i).1, rds + 1, sd, ad), pg, sn, s0, s1, s2, h', t, (ik, iw, ir), ih, it)) 0 rfl rfl 9 (by decide) kf_X5_182 rfl (rfl) (rfl) (Nat.le_of_ble_eq_true rfl) rfl dX5_round_44 ?_
          refine g_aload_n 47 O dX5_round_47 rfl 1 rfl ?_
          refine g_get 48 O (v := .int (nI (rw2 z y hr wn i).1)) inX5 0 rfl rfl 8 (by decide) kf_X5_124 rfl dX5_round_48 ?_
          exact g_iret 51 O dX5_round_51 (by subst e; rw [hP0]; exact ⟨_, rfl, by rw [A_round, if_neg hy0], by rw [NS_round, N_roundW, N_roundR, N_roundH, if_neg hy0, if_neg hy0, if_neg hy0]; exact ⟨⟨⟨rfl, hwi⟩, rfl, rfl, had, had60⟩, ⟨hpg, hpn, hpc⟩, hz, hs, ho, hh', ht, hi⟩⟩)
        · -- not taken
          have hlt : i < hr.1 := by rw [hh'.1] at h23; exact lt_of_nge (by omega) h23
          refine g_aload_n 26 O dX5_round_26 rfl 1 rfl ?_
          refine g_iload_n 27 O dX5_round_27 rfl 0 rfl ?_
          refine g_callV 28 O (na := 1) (av := [.int (nI i)]) (c_X5_letAct l E a (nI (rw2 z y hr wn i).1) rds sd ad pg sn s0 s1 s2 h' t ik iw ir ih it (nI i) z y hs (hr.1, hr.2.1, hr.2.2.1, hr.2.2.2.1, (rw2 z y hr wn i).2) hh' hy0 i rfl hlt (rw2 z y hr wn i).1 rfl hwi) kl_X5_178 km_X5_letAct kv_X5_letAct ki_X5 kc_X5_letAct (by decide +kernel) rfl (Nat.le_of_ble_eq_true rfl) (Nat.le_of_ble_eq_true rfl) (fun _ h => h) 0 rfl rfl (fun s => s) (fun _ _ _ _ h => h) rfl (Nat.le_of_ble_eq_true rfl) dX5_round_28 (fun v9 s9 hv9 => ?_)
          obtain ⟨rfl, h2, rfl, hh2⟩ := hv9
          refine g_iinc 31 O (v := nI (i + 1)) (q := 0) (lv' := [(1, .int (nI (i + 1))), (0, .ref (a 0))]) dX5_round_31 rfl (nI_1 i) (by decide) rfl ?_
          refine g_goto 34 O 15 dX5_round_34 (by decide) ?_
          refine g_sub [0, 1] (lv' := [(1, .int (nI (i + 1))), (0, .ref (a 0))]) rfl ?_
          exact ih15 (i + 1) h2 (by omega) (bh_lt hh hlt _ hwi) hh2 (by omega)
    exact L15 _ 0 h (Nat.zero_le _) hw0 hh (Nat.lt_succ_self _)
  · -- not taken
    refine g_bipush 10 O (v := (-103)) dX5_round_10 (by decide) ?_
    exact g_iret 12 O dX5_round_12 (by rw [hP0]; exact ⟨_, rfl, by rw [A_round, if_pos ((sy0 hs).mp (ite_t h7))], by rw [NS_round, N_roundW, N_roundR, N_roundH, if_pos ((sy0 hs).mp (ite_t h7)), if_pos ((sy0 hs).mp (ite_t h7)), if_pos ((sy0 hs).mp (ite_t h7))]; exact ⟨⟨⟨hw, hw0⟩, rfl, rfl, had, had60⟩, ⟨hpg, hpn, hpc⟩, hz, hs, ho, hh, ht, hi⟩⟩)
