set_option maxRecDepth 100000 in
set_option maxHeartbeats 4000000 in
theorem c_X0_has (l : Launch) (E : Ev) (a : Nat → Nat) (R : va_W) (nu : Int32) (ki fa va ch : Nat → Int32) (p0 : Int32) (N : Nat) (hnu : nu = nI N) (hN : N ≤ 4) : Ctr l yX0_has cX0_has 2 (some .boolean) 0 0 E (fun s => wH E a s ++ R) [.ref (a 0), .int p0] ((nu, ki, fa, va, ch)) (fun v s => v = some (.int (if 0 ≤ p0 ∧ p0 < nu then 1 else 0)) ∧ s = (nu, ki, fa, va, ch)) := by
  refine Ctr.of' (by decide +kernel) (Nat.le_of_ble_eq_true rfl) (fun X P0 hP0 O => ?_)
  refine g_sub [0, 1] (lv' := [(0, .ref (a 0)), (1, .int p0)]) rfl ?_
  refine g_iload_n 0 O dX0_has_0 rfl 1 rfl ?_
  refine g_if_lt 1 O 21 dX0_has_1 (by decide) (fun h1 => ?_) (fun h1 => ?_)
  · -- taken
    refine g_iconst 21 O (v := 0) dX0_has_21 (by decide) ?_
    exact g_zret (by first | rfl | decide) 22 O dX0_has_22 (by rw [hP0]; exact ⟨by rw [if_neg (fun q => Int32.not_le.mpr h1 q.1)], rfl⟩)
  · -- not taken
    refine g_iload_n 4 O dX0_has_4 rfl 1 rfl ?_
    refine g_aload_n 5 O dX0_has_5 rfl 0 rfl ?_
    refine g_get 6 O (v := .int nu) inX0 0 rfl rfl 4 (by decide) kf_X0_24 rfl dX0_has_6 ?_
    refine g_icmp_ge 9 O 21 dX0_has_9 (by decide) (fun h9 => ?_) (fun h9 => ?_)
    · -- taken
      refine g_iconst 21 O (v := 0) dX0_has_21 (by decide) ?_
      exact g_zret (by first | rfl | decide) 22 O dX0_has_22 (by rw [hP0]; exact ⟨by rw [if_neg (fun q => Int32.not_lt.mpr h9 q.2)], rfl⟩)
    · -- not taken
      refine g_iload_n 12 O dX0_has_12 rfl 1 rfl ?_
      refine g_iconst 13 O (v := 4) dX0_has_13 (by decide) ?_
      refine g_icmp_ge 14 O 21 dX0_has_14 (by decide) (fun h14 => False.elim (h9 (Int32.le_trans (by rw [hnu]; exact nI_le (b := 4) hN (by decide)) h14))) (fun h14 => ?_)
      refine g_iconst 17 O (v := 1) dX0_has_17 (by decide) ?_
      refine g_goto 18 O 22 dX0_has_18 (by decide) ?_
      exact g_zret (by first | rfl | decide) 22 O dX0_has_22 (by rw [hP0]; exact ⟨by rw [if_pos (⟨Int32.not_lt.mp h1, Int32.not_le.mp h9⟩)], rfl⟩)

set_option maxRecDepth 100000 in
set_option maxHeartbeats 4000000 in
theorem c_X0_join (l : Launch) (E : Ev) (a : Nat → Nat) (R : va_W) (nu : Int32) (ki fa va ch : Nat → Int32) (p0 p1 p2 : Int32) (N : Nat) (hnu : nu = nI N) (hN : N ≤ 4) : Ctr l yX0_join cX0_join 4 (some .boolean) 0 0 E (fun s => wH E a s ++ R) [.ref (a 0), .int p0, .int p1, .int p2] ((nu, ki, fa, va, ch)) (fun v s => (4 ≤ N ∧ v = some (.int 0) ∧ s = (nu, ki, fa, va, ch)) ∨ (N < 4 ∧ v = some (.int 1) ∧ s = (nI (N + 1), upd ki N p0, upd fa N p1, upd va N p2, upd ch N 0))) := by
  refine Ctr.of' (by decide +kernel) (Nat.le_of_ble_eq_true rfl) (fun X P0 hP0 O => ?_)
  refine g_sub [0, 1, 2, 3] (lv' := [(0, .ref (a 0)), (1, .int p0), (2, .int p1), (3, .int p2)]) rfl ?_
  refine g_aload_n 0 O dX0_join_0 rfl 0 rfl ?_
  refine g_get 1 O (v := .int nu) inX0 0 rfl rfl 4 (by decide) kf_X0_24 rfl dX0_join_1 ?_
  refine g_if_lt 4 O 15 dX0_join_4 (by decide) (fun h4 => False.elim (absurd h4 (by rw [hnu]; exact nI_pos (by omega)))) (fun h4 => ?_)
  refine g_aload_n 7 O dX0_join_7 rfl 0 rfl ?_
  refine g_get 8 O (v := .int nu) inX0 0 rfl rfl 4 (by decide) kf_X0_24 rfl dX0_join_8 ?_
  refine g_iconst 11 O (v := 4) dX0_join_11 (by decide) ?_
  refine g_icmp_lt 12 O 17 dX0_join_12 (by decide) (fun h12 => ?_) (fun h12 => ?_)
  · -- taken
    have hlt : N < 4 := by rw [hnu] at h12; exact (nI_ltI (b := 4) (by omega) (by decide)).mp h12
    refine g_aload_n 17 O dX0_join_17 rfl 0 rfl ?_
    refine g_get 18 O (v := .ref (a 1)) inX0 0 rfl rfl 0 (by decide) kf_X0_9 rfl dX0_join_18 ?_
    refine g_aload_n 21 O dX0_join_21 rfl 0 rfl ?_
    refine g_get 22 O (v := .int nu) inX0 0 rfl rfl 4 (by decide) kf_X0_24 rfl dX0_join_22 ?_
    refine g_iload_n 25 O dX0_join_25 rfl 1 rfl ?_
    refine g_iast 26 O ((nu, upd ki N p0, fa, va, ch)) 1 N rfl (hnu) (hlt) (by decide) rfl dX0_join_26 ?_
    refine g_aload_n 27 O dX0_join_27 rfl 0 rfl ?_
    refine g_get 28 O (v := .ref (a 2)) inX0 0 rfl rfl 1 (by decide) kf_X0_15 rfl dX0_join_28 ?_
    refine g_aload_n 31 O dX0_join_31 rfl 0 rfl ?_
    refine g_get 32 O (v := .int nu) inX0 0 rfl rfl 4 (by decide) kf_X0_24 rfl dX0_join_32 ?_
    refine g_iload_n 35 O dX0_join_35 rfl 2 rfl ?_
    refine g_iast 36 O ((nu, upd ki N p0, upd fa N p1, va, ch)) 2 N rfl (hnu) (hlt) (by decide) rfl dX0_join_36 ?_
    refine g_aload_n 37 O dX0_join_37 rfl 0 rfl ?_
    refine g_get 38 O (v := .ref (a 3)) inX0 0 rfl rfl 2 (by decide) kf_X0_18 rfl dX0_join_38 ?_
    refine g_aload_n 41 O dX0_join_41 rfl 0 rfl ?_
    refine g_get 42 O (v := .int nu) inX0 0 rfl rfl 4 (by decide) kf_X0_24 rfl dX0_join_42 ?_
    refine g_iload_n 45 O dX0_join_45 rfl 3 rfl ?_
    refine g_iast 46 O ((nu, upd ki N p0, upd fa N p1, upd va N p2, ch)) 3 N rfl (hnu) (hlt) (by decide) rfl dX0_join_46 ?_
    refine g_aload_n 47 O dX0_join_47 rfl 0 rfl ?_
    refine g_get 48 O (v := .ref (a 4)) inX0 0 rfl rfl 3 (by decide) kf_X0_21 rfl dX0_join_48 ?_
    refine g_aload_n 51 O dX0_join_51 rfl 0 rfl ?_
    refine g_get 52 O (v := .int nu) inX0 0 rfl rfl 4 (by decide) kf_X0_24 rfl dX0_join_52 ?_
    refine g_iconst 55 O (v := 0) dX0_join_55 (by decide) ?_
    refine g_iast 56 O ((nu, upd ki N p0, upd fa N p1, upd va N p2, upd ch N 0)) 4 N rfl (hnu) (hlt) (by decide) rfl dX0_join_56 ?_
    refine g_aload_n 57 O dX0_join_57 rfl 0 rfl ?_
    refine g_dup 58 O dX0_join_58 rfl ?_
    refine g_get 59 O (v := .int nu) inX0 0 rfl rfl 4 (by decide) kf_X0_24 rfl dX0_join_59 ?_
    refine g_iconst 62 O (v := 1) dX0_join_62 (by decide) ?_
    refine g_iadd 63 O dX0_join_63 ?_
    refine g_si (nI (N + 1)) (by rw [hnu]; exact nI_1 N) ?_
    refine g_put 64 O inX0 tyX0_ok nmX0 ((nI (N + 1), upd ki N p0, upd fa N p1, upd va N p2, upd ch N 0)) 0 rfl rfl 4 (by decide) kf_X0_24 rfl (rfl) (rfl) (Nat.le_of_ble_eq_true rfl) rfl dX0_join_64 ?_
    refine g_iconst 67 O (v := 1) dX0_join_67 (by decide) ?_
    exact g_zret (rfl) 68 O dX0_join_68 (by rw [hP0]; exact Or.inr ⟨hlt, rfl, rfl⟩)
  · -- not taken
    have hge : 4 ≤ N := by rw [hnu] at h12; exact Nat.not_lt.mp (fun q => h12 (nI_lt (b := 4) q (by decide)))
    refine g_iconst 15 O (v := 0) dX0_join_15 (by decide) ?_
    exact g_zret (rfl) 16 O dX0_join_16 (by rw [hP0]; exact Or.inl ⟨hge, rfl, rfl⟩)

set_option maxRecDepth 100000 in
set_option maxHeartbeats 4000000 in
theorem c_X0_kindOf (l : Launch) (E : Ev) (a : Nat → Nat) (R : va_W) (nu : Int32) (ki fa va ch : Nat → Int32) (p0 : Int32) (N k : Nat) (hnu : nu = nI N) (hN : N ≤ 4) (hp : p0 = nI k) (hk : k < N) : Ctr l yX0_kindOf cX0_kindOf 2 (some .int) 0 0 E (fun s => wH E a s ++ R) [.ref (a 0), .int p0] ((nu, ki, fa, va, ch)) (fun v s => v = some (.int (ki k)) ∧ s = (nu, ki, fa, va, ch)) := by
  refine Ctr.of' (by decide +kernel) (Nat.le_of_ble_eq_true rfl) (fun X P0 hP0 O => ?_)
  refine g_sub [0, 1] (lv' := [(0, .ref (a 0)), (1, .int p0)]) rfl ?_
  refine g_iload_n 0 O dX0_kindOf_0 rfl 1 rfl ?_
  refine g_if_lt 1 O 30 dX0_kindOf_1 (by decide) (fun h1 => False.elim (absurd h1 (by rw [hp]; exact nI_pos (by omega)))) (fun h1 => ?_)
  refine g_iload_n 4 O dX0_kindOf_4 rfl 1 rfl ?_
  refine g_aload_n 5 O dX0_kindOf_5 rfl 0 rfl ?_
  refine g_get 6 O (v := .int nu) inX0 0 rfl rfl 4 (by decide) kf_X0_24 rfl dX0_kindOf_6 ?_
  refine g_icmp_ge 9 O 30 dX0_kindOf_9 (by decide) (fun h9 => False.elim (absurd h9 (by rw [hp, hnu]; exact nI_ge hk (by omega)))) (fun h9 => ?_)
  refine g_iload_n 12 O dX0_kindOf_12 rfl 1 rfl ?_
  refine g_aload_n 13 O dX0_kindOf_13 rfl 0 rfl ?_
  refine g_get 14 O (v := .ref (a 1)) inX0 0 rfl rfl 0 (by decide) kf_X0_9 rfl dX0_kindOf_14 ?_
  refine g_alen 17 O (v := 4) 1 0 rfl rfl rfl dX0_kindOf_17 ?_
  refine g_icmp_ge 18 O 30 dX0_kindOf_18 (by decide) (fun h18 => False.elim (absurd h18 (by rw [hp]; exact nI_ge (b := 4) (by omega) (by decide)))) (fun h18 => ?_)
  refine g_aload_n 21 O dX0_kindOf_21 rfl 0 rfl ?_
  refine g_get 22 O (v := .ref (a 1)) inX0 0 rfl rfl 0 (by decide) kf_X0_9 rfl dX0_kindOf_22 ?_
  refine g_iload_n 25 O dX0_kindOf_25 rfl 1 rfl ?_
  refine g_iald 26 O 1 k rfl (hp) (by omega) (by decide) dX0_kindOf_26 ?_
  refine g_goto 27 O 31 dX0_kindOf_27 (by decide) ?_
  exact g_iret 31 O dX0_kindOf_31 (by rw [hP0]; exact ⟨rfl, rfl⟩)

set_option maxRecDepth 100000 in
set_option maxHeartbeats 4000000 in
theorem c_X0_factOf (l : Launch) (E : Ev) (a : Nat → Nat) (R : va_W) (nu : Int32) (ki fa va ch : Nat → Int32) (p0 : Int32) (N k : Nat) (hnu : nu = nI N) (hN : N ≤ 4) (hp : p0 = nI k) (hk : k < N) : Ctr l yX0_factOf cX0_factOf 2 (some .int) 0 0 E (fun s => wH E a s ++ R) [.ref (a 0), .int p0] ((nu, ki, fa, va, ch)) (fun v s => v = some (.int (fa k)) ∧ s = (nu, ki, fa, va, ch)) := by
  refine Ctr.of' (by decide +kernel) (Nat.le_of_ble_eq_true rfl) (fun X P0 hP0 O => ?_)
  refine g_sub [0, 1] (lv' := [(0, .ref (a 0)), (1, .int p0)]) rfl ?_
  refine g_iload_n 0 O dX0_factOf_0 rfl 1 rfl ?_
  refine g_if_lt 1 O 30 dX0_factOf_1 (by decide) (fun h1 => False.elim (absurd h1 (by rw [hp]; exact nI_pos (by omega)))) (fun h1 => ?_)
  refine g_iload_n 4 O dX0_factOf_4 rfl 1 rfl ?_
  refine g_aload_n 5 O dX0_factOf_5 rfl 0 rfl ?_
  refine g_get 6 O (v := .int nu) inX0 0 rfl rfl 4 (by decide) kf_X0_24 rfl dX0_factOf_6 ?_
  refine g_icmp_ge 9 O 30 dX0_factOf_9 (by decide) (fun h9 => False.elim (absurd h9 (by rw [hp, hnu]; exact nI_ge hk (by omega)))) (fun h9 => ?_)
  refine g_iload_n 12 O dX0_factOf_12 rfl 1 rfl ?_
  refine g_aload_n 13 O dX0_factOf_13 rfl 0 rfl ?_
  refine g_get 14 O (v := .ref (a 2)) inX0 0 rfl rfl 1 (by decide) kf_X0_15 rfl dX0_factOf_14 ?_
  refine g_alen 17 O (v := 4) 2 0 rfl rfl rfl dX0_factOf_17 ?_
  refine g_icmp_ge 18 O 30 dX0_factOf_18 (by decide) (fun h18 => False.elim (absurd h18 (by rw [hp]; exact nI_ge (b := 4) (by omega) (by decide)))) (fun h18 => ?_)
  refine g_aload_n 21 O dX0_factOf_21 rfl 0 rfl ?_
  refine g_get 22 O (v := .ref (a 2)) inX0 0 rfl rfl 1 (by decide) kf_X0_15 rfl dX0_factOf_22 ?_
  refine g_iload_n 25 O dX0_factOf_25 rfl 1 rfl ?_
  refine g_iald 26 O 2 k rfl (hp) (by omega) (by decide) dX0_factOf_26 ?_
  refine g_goto 27 O 31 dX0_factOf_27 (by decide) ?_
  exact g_iret 31 O dX0_factOf_31 (by rw [hP0]; exact ⟨rfl, rfl⟩)

set_option maxRecDepth 100000 in
set_option maxHeartbeats 4000000 in
theorem c_X0_valueOf (l : Launch) (E : Ev) (a : Nat → Nat) (R : va_W) (nu : Int32) (ki fa va ch : Nat → Int32) (p0 : Int32) (N k : Nat) (hnu : nu = nI N) (hN : N ≤ 4) (hp : p0 = nI k) (hk : k < N) : Ctr l yX0_valueOf cX0_valueOf 2 (some .int) 0 0 E (fun s => wH E a s ++ R) [.ref (a 0), .int p0] ((nu, ki, fa, va, ch)) (fun v s => v = some (.int (va k)) ∧ s = (nu, ki, fa, va, ch)) := by
  refine Ctr.of' (by decide +kernel) (Nat.le_of_ble_eq_true rfl) (fun X P0 hP0 O => ?_)
  refine g_sub [0, 1] (lv' := [(0, .ref (a 0)), (1, .int p0)]) rfl ?_
  refine g_iload_n 0 O dX0_valueOf_0 rfl 1 rfl ?_
  refine g_if_lt 1 O 30 dX0_valueOf_1 (by decide) (fun h1 => False.elim (absurd h1 (by rw [hp]; exact nI_pos (by omega)))) (fun h1 => ?_)
  refine g_iload_n 4 O dX0_valueOf_4 rfl 1 rfl ?_
  refine g_aload_n 5 O dX0_valueOf_5 rfl 0 rfl ?_
  refine g_get 6 O (v := .int nu) inX0 0 rfl rfl 4 (by decide) kf_X0_24 rfl dX0_valueOf_6 ?_
  refine g_icmp_ge 9 O 30 dX0_valueOf_9 (by decide) (fun h9 => False.elim (absurd h9 (by rw [hp, hnu]; exact nI_ge hk (by omega)))) (fun h9 => ?_)
  refine g_iload_n 12 O dX0_valueOf_12 rfl 1 rfl ?_
  refine g_aload_n 13 O dX0_valueOf_13 rfl 0 rfl ?_
  refine g_get 14 O (v := .ref (a 3)) inX0 0 rfl rfl 2 (by decide) kf_X0_18 rfl dX0_valueOf_14 ?_
  refine g_alen 17 O (v := 4) 3 0 rfl rfl rfl dX0_valueOf_17 ?_
  refine g_icmp_ge 18 O 30 dX0_valueOf_18 (by decide) (fun h18 => False.elim (absurd h18 (by rw [hp]; exact nI_ge (b := 4) (by omega) (by decide)))) (fun h18 => ?_)
  refine g_aload_n 21 O dX0_valueOf_21 rfl 0 rfl ?_
  refine g_get 22 O (v := .ref (a 3)) inX0 0 rfl rfl 2 (by decide) kf_X0_18 rfl dX0_valueOf_22 ?_
  refine g_iload_n 25 O dX0_valueOf_25 rfl 1 rfl ?_
  refine g_iald 26 O 3 k rfl (hp) (by omega) (by decide) dX0_valueOf_26 ?_
  refine g_goto 27 O 31 dX0_valueOf_27 (by decide) ?_
  exact g_iret 31 O dX0_valueOf_31 (by rw [hP0]; exact ⟨rfl, rfl⟩)

set_option maxRecDepth 100000 in
set_option maxHeartbeats 4000000 in
theorem c_X0_changesOf (l : Launch) (E : Ev) (a : Nat → Nat) (R : va_W) (nu : Int32) (ki fa va ch : Nat → Int32) (p0 : Int32) (N k : Nat) (hnu : nu = nI N) (hN : N ≤ 4) (hp : p0 = nI k) (hk : k < N) : Ctr l yX0_changesOf cX0_changesOf 2 (some .int) 0 0 E (fun s => wH E a s ++ R) [.ref (a 0), .int p0] ((nu, ki, fa, va, ch)) (fun v s => v = some (.int (ch k)) ∧ s = (nu, ki, fa, va, ch)) := by
  refine Ctr.of' (by decide +kernel) (Nat.le_of_ble_eq_true rfl) (fun X P0 hP0 O => ?_)
  refine g_sub [0, 1] (lv' := [(0, .ref (a 0)), (1, .int p0)]) rfl ?_
  refine g_iload_n 0 O dX0_changesOf_0 rfl 1 rfl ?_
  refine g_if_lt 1 O 30 dX0_changesOf_1 (by decide) (fun h1 => False.elim (absurd h1 (by rw [hp]; exact nI_pos (by omega)))) (fun h1 => ?_)
  refine g_iload_n 4 O dX0_changesOf_4 rfl 1 rfl ?_
  refine g_aload_n 5 O dX0_changesOf_5 rfl 0 rfl ?_
  refine g_get 6 O (v := .int nu) inX0 0 rfl rfl 4 (by decide) kf_X0_24 rfl dX0_changesOf_6 ?_
  refine g_icmp_ge 9 O 30 dX0_changesOf_9 (by decide) (fun h9 => False.elim (absurd h9 (by rw [hp, hnu]; exact nI_ge hk (by omega)))) (fun h9 => ?_)
  refine g_iload_n 12 O dX0_changesOf_12 rfl 1 rfl ?_
  refine g_aload_n 13 O dX0_changesOf_13 rfl 0 rfl ?_
  refine g_get 14 O (v := .ref (a 4)) inX0 0 rfl rfl 3 (by decide) kf_X0_21 rfl dX0_changesOf_14 ?_
  refine g_alen 17 O (v := 4) 4 0 rfl rfl rfl dX0_changesOf_17 ?_
  refine g_icmp_ge 18 O 30 dX0_changesOf_18 (by decide) (fun h18 => False.elim (absurd h18 (by rw [hp]; exact nI_ge (b := 4) (by omega) (by decide)))) (fun h18 => ?_)
  refine g_aload_n 21 O dX0_changesOf_21 rfl 0 rfl ?_
  refine g_get 22 O (v := .ref (a 4)) inX0 0 rfl rfl 3 (by decide) kf_X0_21 rfl dX0_changesOf_22 ?_
  refine g_iload_n 25 O dX0_changesOf_25 rfl 1 rfl ?_
  refine g_iald 26 O 4 k rfl (hp) (by omega) (by decide) dX0_changesOf_26 ?_
  refine g_goto 27 O 31 dX0_changesOf_27 (by decide) ?_
  exact g_iret 31 O dX0_changesOf_31 (by rw [hP0]; exact ⟨rfl, rfl⟩)

set_option maxRecDepth 100000 in
set_option maxHeartbeats 4000000 in
theorem c_X0_countChange (l : Launch) (E : Ev) (a : Nat → Nat) (R : va_W) (nu : Int32) (ki fa va ch : Nat → Int32) (p0 : Int32) (N k : Nat) (hnu : nu = nI N) (hN : N ≤ 4) (hp : p0 = nI k) (hk : k < N) : Ctr l yX0_countChange cX0_countChange 2 none 1 21 E (fun s => wH E a s ++ R) [.ref (a 0), .int p0] ((nu, ki, fa, va, ch)) (fun v s => v = none ∧ s = (nu, ki, fa, va, upd ch k (ch k + 1))) := by
  refine Ctr.of' (by decide +kernel) (Nat.le_of_ble_eq_true rfl) (fun X P0 hP0 O => ?_)
  refine g_sub [0, 1] (lv' := [(0, .ref (a 0)), (1, .int p0)]) rfl ?_
  refine g_aload_n 0 O dX0_countChange_0 rfl 0 rfl ?_
  refine g_iload_n 1 O dX0_countChange_1 rfl 1 rfl ?_
  refine g_callV 2 O (na := 1) (av := [.int p0]) (c_X0_has l E a R nu ki fa va ch p0 N hnu hN) kl_X0_28 km_X0_has kv_X0_has ki_X0 kc_X0_has (by decide +kernel) rfl (Nat.le_of_ble_eq_true rfl) (Nat.le_of_ble_eq_true rfl) (fun _ h => h) 0 rfl rfl (fun s => s) (fun _ _ _ _ h => h) rfl (Nat.le_of_ble_eq_true rfl) dX0_countChange_2 (fun v9 s9 hv9 => ?_)
  obtain ⟨rfl, rfl⟩ := hv9
  refine g_if_eq 5 O 18 dX0_countChange_5 (by decide) (fun h5 => False.elim (ite_f h5 ⟨by rw [hp]; exact nI_pos' (by omega), by rw [hp, hnu]; exact nI_lt hk (by omega)⟩)) (fun h5 => ?_)
  refine g_aload_n 8 O dX0_countChange_8 rfl 0 rfl ?_
  refine g_get 9 O (v := .ref (a 4)) inX0 0 rfl rfl 3 (by decide) kf_X0_21 rfl dX0_countChange_9 ?_
  refine g_iload_n 12 O dX0_countChange_12 rfl 1 rfl ?_
  refine g_dup2 13 O dX0_countChange_13 rfl rfl ?_
  refine g_iald 14 O 4 k rfl (hp) (by omega) (by decide) dX0_countChange_14 ?_
  refine g_iconst 15 O (v := 1) dX0_countChange_15 (by decide) ?_
  refine g_iadd 16 O dX0_countChange_16 ?_
  refine g_iast 17 O ((nu, ki, fa, va, upd ch k ((ch k) + 1))) 4 k rfl (hp) (by omega) (by decide) rfl dX0_countChange_17 ?_
  exact g_vret 18 O dX0_countChange_18 (by rw [hP0]; exact ⟨rfl, rfl⟩)

set_option maxRecDepth 100000 in
set_option maxHeartbeats 4000000 in
theorem c_X0_become (l : Launch) (E : Ev) (a b : Nat → Nat) (R : va_W) (m : Hc) (nu : Int32) (ki fa va ch : Nat → Int32) (N : Nat) (hm : m.1 = nI N) (hN : N ≤ 4) : Ctr l yX0_become cX0_become 3 none 0 0 E (fun s => wH E a s ++ (wH E b m ++ R)) [.ref (a 0), .ref (b 0)] ((nu, ki, fa, va, ch)) (pV (fun s => s.1 = m.1 ∧ ∀ k, k < N → s.2.1 k = m.2.1 k ∧ s.2.2.1 k = m.2.2.1 k ∧ s.2.2.2.1 k = m.2.2.2.1 k ∧ s.2.2.2.2 k = m.2.2.2.2 k)) := by
  refine Ctr.of' (by decide +kernel) (Nat.le_of_ble_eq_true rfl) (fun X P0 hP0 O => ?_)
  refine g_sub [0, 1] (lv' := [(0, .ref (a 0)), (1, .ref (b 0))]) rfl ?_
  refine g_aload_n 0 O dX0_become_0 rfl 0 rfl ?_
  refine g_iconst 1 O (v := 0) dX0_become_1 (by decide) ?_
  refine g_put 2 O inX0 tyX0_ok nmX0 ((0, ki, fa, va, ch)) 0 rfl rfl 4 (by decide) kf_X0_24 rfl (rfl) (rfl) (Nat.le_of_ble_eq_true rfl) rfl dX0_become_2 ?_
  refine g_iconst 5 O (v := 0) dX0_become_5 (by decide) ?_
  refine g_istore_n 6 O (lv' := [(2, .int 0), (0, .ref (a 0)), (1, .ref (b 0))]) dX0_become_6 rfl (by decide) rfl ?_
  have L7 : ∀ (fuel : Nat) (i : Nat) (ki' fa' va' ch' : Nat → Int32) (hi : i ≤ N) (hk : ∀ k, k < i → ki' k = m.2.1 k ∧ fa' k = m.2.2.1 k ∧ va' k = m.2.2.2.1 k ∧ ch' k = m.2.2.2.2 k), N - i < fuel → G l E (fun s => wH E a s ++ (wH E b m ++ R)) P0 X 3 ((nI i, ki', fa', va', ch')) 7 [(2, .int (nI i)), (0, .ref (a 0)), (1, .ref (b 0))] [] := by
    intro fuel
    induction fuel with
    | zero => intro i ki' fa' va' ch' hi hk hfu; exact absurd hfu (Nat.not_lt_zero _)
    | succ fuel ih7 =>
      intro i ki' fa' va' ch' hi hk hfu
      refine g_iload_n 7 O dX0_become_7 rfl 0 rfl ?_
      refine g_aload_n 8 O dX0_become_8 rfl 2 rfl ?_
      refine g_get 9 O (v := .int m.1) inX0 5 rfl rfl 4 (by decide) kf_X0_24 rfl dX0_become_9 ?_
      refine g_icmp_ge 12 O 84 dX0_become_12 (by decide) (fun h12 => ?_) (fun h12 => ?_)
      · -- taken
        have e : i = N := by rw [hm] at h12; have := ge_of_le (by omega) (by omega) h12; omega
        subst e
        exact g_vret 84 O dX0_become_84 (by rw [hP0]; exact ⟨rfl, hm.symm, hk⟩)
      · -- not taken
        have hlt : i < N := by rw [hm] at h12; exact lt_of_nge (by omega) h12
        refine g_iload_n 15 O dX0_become_15 rfl 0 rfl ?_
        refine g_iconst 16 O (v := 4) dX0_become_16 (by decide) ?_
        refine g_icmp_ge 17 O 84 dX0_become_17 (by decide) (fun h17 => False.elim (absurd h17 (nI_ge (b := 4) (by omega) (by decide)))) (fun h17 => ?_)
        refine g_aload_n 20 O dX0_become_20 rfl 1 rfl ?_
        refine g_get 21 O (v := .ref (a 1)) inX0 0 rfl rfl 0 (by decide) kf_X0_9 rfl dX0_become_21 ?_
        refine g_iload_n 24 O dX0_become_24 rfl 0 rfl ?_
        refine g_aload_n 25 O dX0_become_25 rfl 2 rfl ?_
        refine g_get 26 O (v := .ref (b 1)) inX0 5 rfl rfl 0 (by decide) kf_X0_9 rfl dX0_become_26 ?_
        refine g_iload_n 29 O dX0_become_29 rfl 0 rfl ?_
        refine g_iald 30 O 6 i rfl (rfl) (by omega) (by decide) dX0_become_30 ?_
        refine g_iast 31 O ((nI i, upd ki' i (m.2.1 i), fa', va', ch')) 1 i rfl (rfl) (by omega) (by decide) rfl dX0_become_31 ?_
        refine g_aload_n 32 O dX0_become_32 rfl 1 rfl ?_
        refine g_get 33 O (v := .ref (a 2)) inX0 0 rfl rfl 1 (by decide) kf_X0_15 rfl dX0_become_33 ?_
        refine g_iload_n 36 O dX0_become_36 rfl 0 rfl ?_
        refine g_aload_n 37 O dX0_become_37 rfl 2 rfl ?_
        refine g_get 38 O (v := .ref (b 2)) inX0 5 rfl rfl 1 (by decide) kf_X0_15 rfl dX0_become_38 ?_
        refine g_iload_n 41 O dX0_become_41 rfl 0 rfl ?_
        refine g_iald 42 O 7 i rfl (rfl) (by omega) (by decide) dX0_become_42 ?_
        refine g_iast 43 O ((nI i, upd ki' i (m.2.1 i), upd fa' i (m.2.2.1 i), va', ch')) 2 i rfl (rfl) (by omega) (by decide) rfl dX0_become_43 ?_
        refine g_aload_n 44 O dX0_become_44 rfl 1 rfl ?_
        refine g_get 45 O (v := .ref (a 3)) inX0 0 rfl rfl 2 (by decide) kf_X0_18 rfl dX0_become_45 ?_
        refine g_iload_n 48 O dX0_become_48 rfl 0 rfl ?_
        refine g_aload_n 49 O dX0_become_49 rfl 2 rfl ?_
        refine g_get 50 O (v := .ref (b 3)) inX0 5 rfl rfl 2 (by decide) kf_X0_18 rfl dX0_become_50 ?_
        refine g_iload_n 53 O dX0_become_53 rfl 0 rfl ?_
        refine g_iald 54 O 8 i rfl (rfl) (by omega) (by decide) dX0_become_54 ?_
        refine g_iast 55 O ((nI i, upd ki' i (m.2.1 i), upd fa' i (m.2.2.1 i), upd va' i (m.2.2.2.1 i), ch')) 3 i rfl (rfl) (by omega) (by decide) rfl dX0_become_55 ?_
        refine g_aload_n 56 O dX0_become_56 rfl 1 rfl ?_
        refine g_get 57 O (v := .ref (a 4)) inX0 0 rfl rfl 3 (by decide) kf_X0_21 rfl dX0_become_57 ?_
        refine g_iload_n 60 O dX0_become_60 rfl 0 rfl ?_
        refine g_aload_n 61 O dX0_become_61 rfl 2 rfl ?_
        refine g_get 62 O (v := .ref (b 4)) inX0 5 rfl rfl 3 (by decide) kf_X0_21 rfl dX0_become_62 ?_
        refine g_iload_n 65 O dX0_become_65 rfl 0 rfl ?_
        refine g_iald 66 O 9 i rfl (rfl) (by omega) (by decide) dX0_become_66 ?_
        refine g_iast 67 O ((nI i, upd ki' i (m.2.1 i), upd fa' i (m.2.2.1 i), upd va' i (m.2.2.2.1 i), upd ch' i (m.2.2.2.2 i))) 4 i rfl (rfl) (by omega) (by decide) rfl dX0_become_67 ?_
        refine g_aload_n 68 O dX0_become_68 rfl 1 rfl ?_
        refine g_dup 69 O dX0_become_69 rfl ?_
        refine g_get 70 O (v := .int (nI i)) inX0 0 rfl rfl 4 (by decide) kf_X0_24 rfl dX0_become_70 ?_
        refine g_iconst 73 O (v := 1) dX0_become_73 (by decide) ?_
        refine g_iadd 74 O dX0_become_74 ?_
        refine g_si (nI (i + 1)) (nI_1 i) ?_
        refine g_put 75 O inX0 tyX0_ok nmX0 ((nI (i + 1), upd ki' i (m.2.1 i), upd fa' i (m.2.2.1 i), upd va' i (m.2.2.2.1 i), upd ch' i (m.2.2.2.2 i))) 0 rfl rfl 4 (by decide) kf_X0_24 rfl (rfl) (rfl) (Nat.le_of_ble_eq_true rfl) rfl dX0_become_75 ?_
        refine g_iinc 78 O (v := nI (i + 1)) (q := 0) (lv' := [(2, .int (nI (i + 1))), (0, .ref (a 0)), (1, .ref (b 0))]) dX0_become_78 rfl (nI_1 i) (by decide) rfl ?_
        refine g_goto 81 O 7 dX0_become_81 (by decide) ?_
        refine g_sub [0, 1, 2] (lv' := [(2, .int (nI (i + 1))), (0, .ref (a 0)), (1, .ref (b 0))]) rfl ?_
        exact ih7 (i + 1) (upd ki' i (m.2.1 i)) (upd fa' i (m.2.2.1 i)) (upd va' i (m.2.2.2.1 i)) (upd ch' i (m.2.2.2.2 i)) (by omega) (fun k h => by
          rcases Nat.lt_or_ge k i with q | q
          · simp only [upd_n _ _ (by omega : k ≠ i)]; exact hk k q
          · have e : k = i := by omega
            subst e; exact ⟨upd_s _ _ _, upd_s _ _ _, upd_s _ _ _, upd_s _ _ _⟩) (by omega)
  exact L7 _ 0 ki fa va ch (Nat.zero_le _) (fun k h => absurd h (Nat.not_lt_zero _)) (Nat.lt_succ_self _)

set_option maxRecDepth 100000 in
set_option maxHeartbeats 4000000 in
theorem c_X4_append (l : Launch) (E : Ev) (a : Nat → Nat) (R : va_W) (nu : Int32) (wo : Nat → Int32) (p0 : Int32) (N : Nat) (hnu : nu = nI N) (hN : N ≤ 6) : Ctr l yX4_append cX4_append 2 (some .boolean) 0 0 E (fun s => wT E a s ++ R) [.ref (a 0), .int p0] ((nu, wo)) (fun v s => (6 ≤ N ∧ v = some (.int 0) ∧ s = (nu, wo)) ∨ (N < 6 ∧ v = some (.int 1) ∧ s = (nI (N + 1), upd wo N p0))) := by
  refine Ctr.of' (by decide +kernel) (Nat.le_of_ble_eq_true rfl) (fun X P0 hP0 O => ?_)
  refine g_sub [0, 1] (lv' := [(0, .ref (a 0)), (1, .int p0)]) rfl ?_
  refine g_aload_n 0 O dX4_append_0 rfl 0 rfl ?_
  refine g_get 1 O (v := .int nu) inX4 0 rfl rfl 1 (by decide) kf_X4_15 rfl dX4_append_1 ?_
  refine g_if_lt 4 O 19 dX4_append_4 (by decide) (fun h4 => False.elim (absurd h4 (by rw [hnu]; exact nI_pos (by omega)))) (fun h4 => ?_)
  refine g_aload_n 7 O dX4_append_7 rfl 0 rfl ?_
  refine g_get 8 O (v := .int nu) inX4 0 rfl rfl 1 (by decide) kf_X4_15 rfl dX4_append_8 ?_
  refine g_aload_n 11 O dX4_append_11 rfl 0 rfl ?_
  refine g_get 12 O (v := .ref (a 1)) inX4 0 rfl rfl 0 (by decide) kf_X4_9 rfl dX4_append_12 ?_
  refine g_alen 15 O (v := 6) 1 0 rfl rfl rfl dX4_append_15 ?_
  refine g_icmp_lt 16 O 21 dX4_append_16 (by decide) (fun h16 => ?_) (fun h16 => ?_)
  · -- taken
    have hlt : N < 6 := by rw [hnu] at h16; exact (nI_ltI (b := 6) (by omega) (by decide)).mp h16
    refine g_aload_n 21 O dX4_append_21 rfl 0 rfl ?_
    refine g_get 22 O (v := .ref (a 1)) inX4 0 rfl rfl 0 (by decide) kf_X4_9 rfl dX4_append_22 ?_
    refine g_aload_n 25 O dX4_append_25 rfl 0 rfl ?_
    refine g_get 26 O (v := .int nu) inX4 0 rfl rfl 1 (by decide) kf_X4_15 rfl dX4_append_26 ?_
    refine g_iload_n 29 O dX4_append_29 rfl 1 rfl ?_
    refine g_iast 30 O ((nu, upd wo N p0)) 1 N rfl (hnu) (hlt) (by decide) rfl dX4_append_30 ?_
    refine g_aload_n 31 O dX4_append_31 rfl 0 rfl ?_
    refine g_dup 32 O dX4_append_32 rfl ?_
    refine g_get 33 O (v := .int nu) inX4 0 rfl rfl 1 (by decide) kf_X4_15 rfl dX4_append_33 ?_
    refine g_iconst 36 O (v := 1) dX4_append_36 (by decide) ?_
    refine g_iadd 37 O dX4_append_37 ?_
    refine g_si (nI (N + 1)) (by rw [hnu]; exact nI_1 N) ?_
    refine g_put 38 O inX4 tyX4_ok nmX4 ((nI (N + 1), upd wo N p0)) 0 rfl rfl 1 (by decide) kf_X4_15 rfl (rfl) (rfl) (Nat.le_of_ble_eq_true rfl) rfl dX4_append_38 ?_
    refine g_iconst 41 O (v := 1) dX4_append_41 (by decide) ?_
    exact g_zret (rfl) 42 O dX4_append_42 (by rw [hP0]; exact Or.inr ⟨hlt, rfl, rfl⟩)
  · -- not taken
    have hge : 6 ≤ N := by rw [hnu] at h16; exact Nat.not_lt.mp (fun q => h16 (nI_lt (b := 6) q (by decide)))
    refine g_iconst 19 O (v := 0) dX4_append_19 (by decide) ?_
    exact g_zret (rfl) 20 O dX4_append_20 (by rw [hP0]; exact Or.inl ⟨hge, rfl, rfl⟩)

set_option maxRecDepth 100000 in
set_option maxHeartbeats 4000000 in
theorem c_X4_worldAt (l : Launch) (E : Ev) (a : Nat → Nat) (R : va_W) (nu : Int32) (wo : Nat → Int32) (p0 : Int32) (N k : Nat) (hnu : nu = nI N) (hN : N ≤ 6) (hp : p0 = nI k) (hk : k < N) : Ctr l yX4_worldAt cX4_worldAt 2 (some .int) 0 0 E (fun s => wT E a s ++ R) [.ref (a 0), .int p0] ((nu, wo)) (fun v s => v = some (.int (wo k)) ∧ s = (nu, wo)) := by
  refine Ctr.of' (by decide +kernel) (Nat.le_of_ble_eq_true rfl) (fun X P0 hP0 O => ?_)
  refine g_sub [0, 1] (lv' := [(0, .ref (a 0)), (1, .int p0)]) rfl ?_
  refine g_iload_n 0 O dX4_worldAt_0 rfl 1 rfl ?_
  refine g_if_lt 1 O 30 dX4_worldAt_1 (by decide) (fun h1 => False.elim (absurd h1 (by rw [hp]; exact nI_pos (by omega)))) (fun h1 => ?_)
  refine g_iload_n 4 O dX4_worldAt_4 rfl 1 rfl ?_
  refine g_aload_n 5 O dX4_worldAt_5 rfl 0 rfl ?_
  refine g_get 6 O (v := .int nu) inX4 0 rfl rfl 1 (by decide) kf_X4_15 rfl dX4_worldAt_6 ?_
  refine g_icmp_ge 9 O 30 dX4_worldAt_9 (by decide) (fun h9 => False.elim (absurd h9 (by rw [hp, hnu]; exact nI_ge hk (by omega)))) (fun h9 => ?_)
  refine g_iload_n 12 O dX4_worldAt_12 rfl 1 rfl ?_
  refine g_aload_n 13 O dX4_worldAt_13 rfl 0 rfl ?_
  refine g_get 14 O (v := .ref (a 1)) inX4 0 rfl rfl 0 (by decide) kf_X4_9 rfl dX4_worldAt_14 ?_
  refine g_alen 17 O (v := 6) 1 0 rfl rfl rfl dX4_worldAt_17 ?_
  refine g_icmp_ge 18 O 30 dX4_worldAt_18 (by decide) (fun h18 => False.elim (absurd h18 (by rw [hp]; exact nI_ge (b := 6) (by omega) (by decide)))) (fun h18 => ?_)
  refine g_aload_n 21 O dX4_worldAt_21 rfl 0 rfl ?_
  refine g_get 22 O (v := .ref (a 1)) inX4 0 rfl rfl 0 (by decide) kf_X4_9 rfl dX4_worldAt_22 ?_
  refine g_iload_n 25 O dX4_worldAt_25 rfl 1 rfl ?_
  refine g_iald 26 O 1 k rfl (hp) (by omega) (by decide) dX4_worldAt_26 ?_
  refine g_goto 27 O 31 dX4_worldAt_27 (by decide) ?_
  exact g_iret 31 O dX4_worldAt_31 (by rw [hP0]; exact ⟨rfl, rfl⟩)

set_option maxRecDepth 100000 in
set_option maxHeartbeats 4000000 in
theorem c_X2_codeAt (l : Launch) (E : Ev) (a : Nat → Nat) (R : va_W) (le : Int32) (cs : Nat → Int32) (p0 : Int32) (N k : Nat) (hle : le = nI N) (hN : N ≤ 14) (hp : p0 = nI k) (hk : k < N) : Ctr l yX2_codeAt cX2_codeAt 2 (some .int) 0 0 E (fun s => wP E a s ++ R) [.ref (a 0), .int p0] ((le, cs)) (fun v s => v = some (.int (cs k)) ∧ s = (le, cs)) := by
  refine Ctr.of' (by decide +kernel) (Nat.le_of_ble_eq_true rfl) (fun X P0 hP0 O => ?_)
  refine g_sub [0, 1] (lv' := [(0, .ref (a 0)), (1, .int p0)]) rfl ?_
  refine g_iload_n 0 O dX2_codeAt_0 rfl 1 rfl ?_
  refine g_if_lt 1 O 30 dX2_codeAt_1 (by decide) (fun h1 => False.elim (absurd h1 (by rw [hp]; exact nI_pos (by omega)))) (fun h1 => ?_)
  refine g_iload_n 4 O dX2_codeAt_4 rfl 1 rfl ?_
  refine g_aload_n 5 O dX2_codeAt_5 rfl 0 rfl ?_
  refine g_get 6 O (v := .int le) inX2 0 rfl rfl 1 (by decide) kf_X2_15 rfl dX2_codeAt_6 ?_
  refine g_icmp_ge 9 O 30 dX2_codeAt_9 (by decide) (fun h9 => False.elim (absurd h9 (by rw [hp, hle]; exact nI_ge hk (by omega)))) (fun h9 => ?_)
  refine g_iload_n 12 O dX2_codeAt_12 rfl 1 rfl ?_
  refine g_aload_n 13 O dX2_codeAt_13 rfl 0 rfl ?_
  refine g_get 14 O (v := .ref (a 1)) inX2 0 rfl rfl 0 (by decide) kf_X2_9 rfl dX2_codeAt_14 ?_
  refine g_alen 17 O (v := 14) 1 0 rfl rfl rfl dX2_codeAt_17 ?_
  refine g_icmp_ge 18 O 30 dX2_codeAt_18 (by decide) (fun h18 => False.elim (absurd h18 (by rw [hp]; exact nI_ge (b := 14) (by omega) (by decide)))) (fun h18 => ?_)
  refine g_aload_n 21 O dX2_codeAt_21 rfl 0 rfl ?_
  refine g_get 22 O (v := .ref (a 1)) inX2 0 rfl rfl 0 (by decide) kf_X2_9 rfl dX2_codeAt_22 ?_
  refine g_iload_n 25 O dX2_codeAt_25 rfl 1 rfl ?_
  refine g_iald 26 O 1 k rfl (hp) (by omega) (by decide) dX2_codeAt_26 ?_
  refine g_goto 27 O 31 dX2_codeAt_27 (by decide) ?_
  exact g_iret 31 O dX2_codeAt_31 (by rw [hP0]; exact ⟨rfl, rfl⟩)

set_option maxRecDepth 100000 in
set_option maxHeartbeats 4000000 in
theorem c_X4_become (l : Launch) (E : Ev) (a b : Nat → Nat) (R : va_W) (m : Tc) (nu : Int32) (wo : Nat → Int32) (N : Nat) (hm : m.1 = nI N) (hN : N ≤ 6) : Ctr l yX4_become cX4_become 3 none 1 21 E (fun s => wT E a s ++ (wT E b m ++ R)) [.ref (a 0), .ref (b 0)] ((nu, wo)) (pV (fun s => s.1 = m.1 ∧ ∀ k, k < N → s.2 k = m.2 k)) := by
  refine Ctr.of' (by decide +kernel) (Nat.le_of_ble_eq_true rfl) (fun X P0 hP0 O => ?_)
  refine g_sub [0, 1] (lv' := [(0, .ref (a 0)), (1, .ref (b 0))]) rfl ?_
  refine g_aload_n 0 O dX4_become_0 rfl 0 rfl ?_
  refine g_iconst 1 O (v := 0) dX4_become_1 (by decide) ?_
  refine g_put 2 O inX4 tyX4_ok nmX4 ((0, wo)) 0 rfl rfl 1 (by decide) kf_X4_15 rfl (rfl) (rfl) (Nat.le_of_ble_eq_true rfl) rfl dX4_become_2 ?_
  refine g_iconst 5 O (v := 0) dX4_become_5 (by decide) ?_
  refine g_istore_n 6 O (lv' := [(2, .int 0), (0, .ref (a 0)), (1, .ref (b 0))]) dX4_become_6 rfl (by decide) rfl ?_
  have L7 : ∀ (fuel : Nat) (i : Nat) (wo' : Nat → Int32) (hi : i ≤ N) (hk : ∀ k, k < i → wo' k = m.2 k), N - i < fuel → G l E (fun s => wT E a s ++ (wT E b m ++ R)) P0 X 3 ((nI i, wo')) 7 [(2, .int (nI i)), (0, .ref (a 0)), (1, .ref (b 0))] [] := by
    intro fuel
    induction fuel with
    | zero => intro i wo' hi hk hfu; exact absurd hfu (Nat.not_lt_zero _)
    | succ fuel ih7 =>
      intro i wo' hi hk hfu
      refine g_iload_n 7 O dX4_become_7 rfl 0 rfl ?_
      refine g_aload_n 8 O dX4_become_8 rfl 2 rfl ?_
      refine g_get 9 O (v := .int m.1) inX4 2 rfl rfl 1 (by decide) kf_X4_15 rfl dX4_become_9 ?_
      refine g_icmp_ge 12 O 31 dX4_become_12 (by decide) (fun h12 => ?_) (fun h12 => ?_)
      · -- taken
        have e : i = N := by rw [hm] at h12; have := ge_of_le (by omega) (by omega) h12; omega
        subst e
        exact g_vret 31 O dX4_become_31 (by rw [hP0]; exact ⟨rfl, hm.symm, hk⟩)
      · -- not taken
        have hlt : i < N := by rw [hm] at h12; exact lt_of_nge (by omega) h12
        refine g_aload_n 15 O dX4_become_15 rfl 1 rfl ?_
        refine g_aload_n 16 O dX4_become_16 rfl 2 rfl ?_
        refine g_iload_n 17 O dX4_become_17 rfl 0 rfl ?_
        refine g_callV 18 O (na := 1) (av := [.int (nI i)]) (c_X4_worldAt l E b (wT E a (nI i, wo') ++ R) m.1 m.2 (nI i) N i hm hN rfl hlt) kl_X4_19 km_X4_worldAt kv_X4_worldAt ki_X4 kc_X4_worldAt (by decide +kernel) rfl (Nat.le_of_ble_eq_true rfl) (Nat.le_of_ble_eq_true rfl) (fun _ h => Wo.swap (wT E a (nI i, wo')) (wT E b m) R rfl rfl h) 0 rfl rfl (fun _ => (nI i, wo')) (fun _ _ _ hp h => by obtain ⟨-, rfl⟩ := hp; exact Wo.swap (wT E b m) (wT E a (nI i, wo')) R rfl rfl h) rfl (Nat.le_of_ble_eq_true rfl) dX4_become_18 (fun v9 s9 hv9 => ?_)
        obtain ⟨rfl, rfl⟩ := hv9
        refine g_callV 21 O (na := 1) (av := [.int (m.2 i)]) (c_X4_append l E a (wT E b m ++ R) (nI i) wo' (m.2 i) i rfl (by omega)) kl_X4_23 km_X4_append kv_X4_append ki_X4 kc_X4_append (by decide +kernel) rfl (Nat.le_of_ble_eq_true rfl) (Nat.le_of_ble_eq_true rfl) (fun _ h => h) 0 rfl rfl (fun s => s) (fun _ _ _ _ h => h) rfl (Nat.le_of_ble_eq_true rfl) dX4_become_21 (fun v9 s9 hv9 => ?_)
        rcases hv9 with ⟨h6, -⟩ | ⟨-, rfl, rfl⟩
        · exact absurd h6 (by omega)
        refine g_pop 24 O dX4_become_24 rfl ?_
        refine g_iinc 25 O (v := nI (i + 1)) (q := 0) (lv' := [(2, .int (nI (i + 1))), (0, .ref (a 0)), (1, .ref (b 0))]) dX4_become_25 rfl (nI_1 i) (by decide) rfl ?_
        refine g_goto 28 O 7 dX4_become_28 (by decide) ?_
        refine g_sub [0, 1, 2] (lv' := [(2, .int (nI (i + 1))), (0, .ref (a 0)), (1, .ref (b 0))]) rfl ?_
        exact ih7 (i + 1) (upd wo' i (m.2 i)) (by omega) (fun k h => by
          rcases Nat.lt_or_ge k i with q | q
          · rw [upd_n _ _ (by omega : k ≠ i)]; exact hk k q
          · have e : k = i := by omega
            subst e; exact upd_s _ _ _) (by omega)
  exact L7 _ 0 wo (Nat.zero_le _) (fun k h => absurd h (Nat.not_lt_zero _)) (Nat.lt_succ_self _)
