theorem kc_Obj : Cond.code objectInit ⟨#[0xb1]⟩ 1 none ∈ WT := wt 69 (by decide +kernel) rfl
set_option maxRecDepth 100000 in
set_option maxHeartbeats 4000000 in
theorem c_X0_init (l : Launch) (E : Ev) : CtrN l yX0_init cX0_init 1 1 20 4 16 E 0 [.null, .null, .null, .null, .int 0] (fun u => wH E u (0, (fun _ => 0), (fun _ => 0), (fun _ => 0), (fun _ => 0))) := by
  refine CtrN.of (by decide +kernel) rfl (by decide) (fun X h0 A hA O hin => ?_)
  refine n_aload_n 0 O dX0_init_0 rfl 0 rfl ?_
  refine n_obj 1 O kl_X0_3 (Nat.le_of_ble_eq_true rfl) (Nat.le_of_ble_eq_true rfl) (Nat.le_of_ble_eq_true rfl) dX0_init_1 kc_Obj ?_
  refine n_aload_n 4 O dX0_init_4 rfl 0 rfl ?_
  refine n_iconst 5 O (v := 4) dX0_init_5 (by decide) ?_
  refine n_newa 6 O (atype := .int) (cA := E.cI) 0 rfl rfl ka_int (4, .inl (fun _ => 0)) (N := 4) (fun _ => rfl) (by decide) rfl (Nat.le_of_ble_eq_true rfl) (Nat.le_of_ble_eq_true rfl) (Nat.le_of_ble_eq_true rfl) dX0_init_6 (fun q6 => ?_)
  refine n_putF 8 O inX0 tyX0_ok nmX0 ([(h0, .inr (0, [.ref q6, .null, .null, .null, .int 0])), (q6, .inl (E.cI, 4, .inl (fun _ => 0)))]) 0 rfl rfl 0 (by decide) kf_X0_9 (by decide +kernel) hin rfl rfl rfl (Nat.le_of_ble_eq_true rfl) rfl dX0_init_8 ?_
  refine n_aload_n 11 O dX0_init_11 rfl 0 rfl ?_
  refine n_iconst 12 O (v := 4) dX0_init_12 (by decide) ?_
  refine n_newa 13 O (atype := .int) (cA := E.cI) 0 rfl rfl ka_int (4, .inl (fun _ => 0)) (N := 4) (fun _ => rfl) (by decide) rfl (Nat.le_of_ble_eq_true rfl) (Nat.le_of_ble_eq_true rfl) (Nat.le_of_ble_eq_true rfl) dX0_init_13 (fun q13 => ?_)
  refine n_putF 15 O inX0 tyX0_ok nmX0 ([(h0, .inr (0, [.ref q6, .ref q13, .null, .null, .int 0])), (q6, .inl (E.cI, 4, .inl (fun _ => 0))), (q13, .inl (E.cI, 4, .inl (fun _ => 0)))]) 0 rfl rfl 1 (by decide) kf_X0_15 (by decide +kernel) hin rfl rfl rfl (Nat.le_of_ble_eq_true rfl) rfl dX0_init_15 ?_
  refine n_aload_n 18 O dX0_init_18 rfl 0 rfl ?_
  refine n_iconst 19 O (v := 4) dX0_init_19 (by decide) ?_
  refine n_newa 20 O (atype := .int) (cA := E.cI) 0 rfl rfl ka_int (4, .inl (fun _ => 0)) (N := 4) (fun _ => rfl) (by decide) rfl (Nat.le_of_ble_eq_true rfl) (Nat.le_of_ble_eq_true rfl) (Nat.le_of_ble_eq_true rfl) dX0_init_20 (fun q20 => ?_)
  refine n_putF 22 O inX0 tyX0_ok nmX0 ([(h0, .inr (0, [.ref q6, .ref q13, .ref q20, .null, .int 0])), (q6, .inl (E.cI, 4, .inl (fun _ => 0))), (q13, .inl (E.cI, 4, .inl (fun _ => 0))), (q20, .inl (E.cI, 4, .inl (fun _ => 0)))]) 0 rfl rfl 2 (by decide) kf_X0_18 (by decide +kernel) hin rfl rfl rfl (Nat.le_of_ble_eq_true rfl) rfl dX0_init_22 ?_
  refine n_aload_n 25 O dX0_init_25 rfl 0 rfl ?_
  refine n_iconst 26 O (v := 4) dX0_init_26 (by decide) ?_
  refine n_newa 27 O (atype := .int) (cA := E.cI) 0 rfl rfl ka_int (4, .inl (fun _ => 0)) (N := 4) (fun _ => rfl) (by decide) rfl (Nat.le_of_ble_eq_true rfl) (Nat.le_of_ble_eq_true rfl) (Nat.le_of_ble_eq_true rfl) dX0_init_27 (fun q27 => ?_)
  refine n_putF 29 O inX0 tyX0_ok nmX0 ([(h0, .inr (0, [.ref q6, .ref q13, .ref q20, .ref q27, .int 0])), (q6, .inl (E.cI, 4, .inl (fun _ => 0))), (q13, .inl (E.cI, 4, .inl (fun _ => 0))), (q20, .inl (E.cI, 4, .inl (fun _ => 0))), (q27, .inl (E.cI, 4, .inl (fun _ => 0)))]) 0 rfl rfl 3 (by decide) kf_X0_21 (by decide +kernel) hin rfl rfl rfl (Nat.le_of_ble_eq_true rfl) rfl dX0_init_29 ?_
  exact n_vret 32 O (fun i => [h0, q6, q13, q20, q27].getD i 0) rfl rfl (Nat.le_of_ble_eq_true rfl) (Nat.le_of_ble_eq_true rfl) dX0_init_32
set_option maxRecDepth 100000 in
set_option maxHeartbeats 4000000 in
theorem c_X4_init (l : Launch) (E : Ev) : CtrN l yX4_init cX4_init 1 1 20 1 6 E 4 [.null, .int 0] (fun u => wT E u (0, (fun _ => 0))) := by
  refine CtrN.of (by decide +kernel) rfl (by decide) (fun X h0 A hA O hin => ?_)
  refine n_aload_n 0 O dX4_init_0 rfl 0 rfl ?_
  refine n_obj 1 O kl_X4_3 (Nat.le_of_ble_eq_true rfl) (Nat.le_of_ble_eq_true rfl) (Nat.le_of_ble_eq_true rfl) dX4_init_1 kc_Obj ?_
  refine n_aload_n 4 O dX4_init_4 rfl 0 rfl ?_
  refine n_bipush 5 O (v := 6) dX4_init_5 (by decide) ?_
  refine n_newa 7 O (atype := .int) (cA := E.cI) 0 rfl rfl ka_int (6, .inl (fun _ => 0)) (N := 6) (fun _ => rfl) (by decide) rfl (Nat.le_of_ble_eq_true rfl) (Nat.le_of_ble_eq_true rfl) (Nat.le_of_ble_eq_true rfl) dX4_init_7 (fun q7 => ?_)
  refine n_putF 9 O inX4 tyX4_ok nmX4 ([(h0, .inr (4, [.ref q7, .int 0])), (q7, .inl (E.cI, 6, .inl (fun _ => 0)))]) 0 rfl rfl 0 (by decide) kf_X4_9 (by decide +kernel) hin rfl rfl rfl (Nat.le_of_ble_eq_true rfl) rfl dX4_init_9 ?_
  exact n_vret 12 O (fun i => [h0, q7].getD i 0) rfl rfl (Nat.le_of_ble_eq_true rfl) (Nat.le_of_ble_eq_true rfl) dX4_init_12
set_option maxRecDepth 100000 in
set_option maxHeartbeats 4000000 in
theorem c_X2_init (l : Launch) (E : Ev) : CtrN l yX2_init cX2_init 1 1 20 1 14 E 2 [.null, .int 0] (fun u => wP E u (0, (fun _ => 0))) := by
  refine CtrN.of (by decide +kernel) rfl (by decide) (fun X h0 A hA O hin => ?_)
  refine n_aload_n 0 O dX2_init_0 rfl 0 rfl ?_
  refine n_obj 1 O kl_X2_3 (Nat.le_of_ble_eq_true rfl) (Nat.le_of_ble_eq_true rfl) (Nat.le_of_ble_eq_true rfl) dX2_init_1 kc_Obj ?_
  refine n_aload_n 4 O dX2_init_4 rfl 0 rfl ?_
  refine n_bipush 5 O (v := 14) dX2_init_5 (by decide) ?_
  refine n_newa 7 O (atype := .int) (cA := E.cI) 0 rfl rfl ka_int (14, .inl (fun _ => 0)) (N := 14) (fun _ => rfl) (by decide) rfl (Nat.le_of_ble_eq_true rfl) (Nat.le_of_ble_eq_true rfl) (Nat.le_of_ble_eq_true rfl) dX2_init_7 (fun q7 => ?_)
  refine n_putF 9 O inX2 tyX2_ok nmX2 ([(h0, .inr (2, [.ref q7, .int 0])), (q7, .inl (E.cI, 14, .inl (fun _ => 0)))]) 0 rfl rfl 0 (by decide) kf_X2_9 (by decide +kernel) hin rfl rfl rfl (Nat.le_of_ble_eq_true rfl) rfl dX2_init_9 ?_
  exact n_vret 12 O (fun i => [h0, q7].getD i 0) rfl rfl (Nat.le_of_ble_eq_true rfl) (Nat.le_of_ble_eq_true rfl) dX2_init_12
set_option maxRecDepth 100000 in
set_option maxHeartbeats 4000000 in
theorem c_X3_init (l : Launch) (E : Ev) : CtrN l yX3_init cX3_init 1 1 20 6 660 E 3 [.null, .null, .null, .null, .null, .null, .int 0, .int 0, .int 0, .int 0, .long 0] (fun u => wS E u ((0, 0, 0, 0, 0), (fun _ => 0), (fun _ => 0), (fun _ => 0), (fun _ => 0), (fun _ => 0), (fun _ => 0))) := by
  refine CtrN.of (by decide +kernel) rfl (by decide) (fun X h0 A hA O hin => ?_)
  refine n_aload_n 0 O dX3_init_0 rfl 0 rfl ?_
  refine n_obj 1 O kl_X3_3 (Nat.le_of_ble_eq_true rfl) (Nat.le_of_ble_eq_true rfl) (Nat.le_of_ble_eq_true rfl) dX3_init_1 kc_Obj ?_
  refine n_aload_n 4 O dX3_init_4 rfl 0 rfl ?_
  refine n_iconst 5 O (v := 4) dX3_init_5 (by decide) ?_
  refine n_newa 6 O (atype := .int) (cA := E.cI) 0 rfl rfl ka_int (4, .inl (fun _ => 0)) (N := 4) (fun _ => rfl) (by decide) rfl (Nat.le_of_ble_eq_true rfl) (Nat.le_of_ble_eq_true rfl) (Nat.le_of_ble_eq_true rfl) dX3_init_6 (fun q6 => ?_)
  refine n_putF 8 O inX3 tyX3_ok nmX3 ([(h0, .inr (3, [.ref q6, .null, .null, .null, .null, .null, .int 0, .int 0, .int 0, .int 0, .long 0])), (q6, .inl (E.cI, 4, .inl (fun _ => 0)))]) 0 rfl rfl 0 (by decide) kf_X3_9 (by decide +kernel) hin rfl rfl rfl (Nat.le_of_ble_eq_true rfl) rfl dX3_init_8 ?_
  refine n_aload_n 11 O dX3_init_11 rfl 0 rfl ?_
  refine n_iconst 12 O (v := 4) dX3_init_12 (by decide) ?_
  refine n_newa 13 O (atype := .boolean) (cA := E.cZ) 1 rfl rfl ka_boolean (4, .inl (fun _ => 0)) (N := 4) (fun _ => rfl) (by decide) rfl (Nat.le_of_ble_eq_true rfl) (Nat.le_of_ble_eq_true rfl) (Nat.le_of_ble_eq_true rfl) dX3_init_13 (fun q13 => ?_)
  refine n_putF 15 O inX3 tyX3_ok nmX3 ([(h0, .inr (3, [.ref q6, .ref q13, .null, .null, .null, .null, .int 0, .int 0, .int 0, .int 0, .long 0])), (q6, .inl (E.cI, 4, .inl (fun _ => 0))), (q13, .inl (E.cZ, 4, .inl (fun _ => 0)))]) 0 rfl rfl 1 (by decide) kf_X3_15 (by decide +kernel) hin rfl rfl rfl (Nat.le_of_ble_eq_true rfl) rfl dX3_init_15 ?_
  refine n_aload_n 18 O dX3_init_18 rfl 0 rfl ?_
  refine n_iconst 19 O (v := 4) dX3_init_19 (by decide) ?_
  refine n_newa 20 O (atype := .boolean) (cA := E.cZ) 1 rfl rfl ka_boolean (4, .inl (fun _ => 0)) (N := 4) (fun _ => rfl) (by decide) rfl (Nat.le_of_ble_eq_true rfl) (Nat.le_of_ble_eq_true rfl) (Nat.le_of_ble_eq_true rfl) dX3_init_20 (fun q20 => ?_)
  refine n_putF 22 O inX3 tyX3_ok nmX3 ([(h0, .inr (3, [.ref q6, .ref q13, .ref q20, .null, .null, .null, .int 0, .int 0, .int 0, .int 0, .long 0])), (q6, .inl (E.cI, 4, .inl (fun _ => 0))), (q13, .inl (E.cZ, 4, .inl (fun _ => 0))), (q20, .inl (E.cZ, 4, .inl (fun _ => 0)))]) 0 rfl rfl 2 (by decide) kf_X3_19 (by decide +kernel) hin rfl rfl rfl (Nat.le_of_ble_eq_true rfl) rfl dX3_init_22 ?_
  refine n_aload_n 25 O dX3_init_25 rfl 0 rfl ?_
  refine n_iconst 26 O (v := 4) dX3_init_26 (by decide) ?_
  refine n_newa 27 O (atype := .long) (cA := E.cJ) 2 rfl rfl ka_long (4, .inr (.inl (fun _ => 0))) (N := 4) (fun _ => rfl) (by decide) rfl (Nat.le_of_ble_eq_true rfl) (Nat.le_of_ble_eq_true rfl) (Nat.le_of_ble_eq_true rfl) dX3_init_27 (fun q27 => ?_)
  refine n_putF 29 O inX3 tyX3_ok nmX3 ([(h0, .inr (3, [.ref q6, .ref q13, .ref q20, .ref q27, .null, .null, .int 0, .int 0, .int 0, .int 0, .long 0])), (q6, .inl (E.cI, 4, .inl (fun _ => 0))), (q13, .inl (E.cZ, 4, .inl (fun _ => 0))), (q20, .inl (E.cZ, 4, .inl (fun _ => 0))), (q27, .inl (E.cJ, 4, .inr (.inl (fun _ => 0))))]) 0 rfl rfl 3 (by decide) kf_X3_22 (by decide +kernel) hin rfl rfl rfl (Nat.le_of_ble_eq_true rfl) rfl dX3_init_29 ?_
  refine n_aload_n 32 O dX3_init_32 rfl 0 rfl ?_
  refine n_iconst 33 O (v := 4) dX3_init_33 (by decide) ?_
  refine n_newa 34 O (atype := .long) (cA := E.cJ) 2 rfl rfl ka_long (4, .inr (.inl (fun _ => 0))) (N := 4) (fun _ => rfl) (by decide) rfl (Nat.le_of_ble_eq_true rfl) (Nat.le_of_ble_eq_true rfl) (Nat.le_of_ble_eq_true rfl) dX3_init_34 (fun q34 => ?_)
  refine n_putF 36 O inX3 tyX3_ok nmX3 ([(h0, .inr (3, [.ref q6, .ref q13, .ref q20, .ref q27, .ref q34, .null, .int 0, .int 0, .int 0, .int 0, .long 0])), (q6, .inl (E.cI, 4, .inl (fun _ => 0))), (q13, .inl (E.cZ, 4, .inl (fun _ => 0))), (q20, .inl (E.cZ, 4, .inl (fun _ => 0))), (q27, .inl (E.cJ, 4, .inr (.inl (fun _ => 0)))), (q34, .inl (E.cJ, 4, .inr (.inl (fun _ => 0))))]) 0 rfl rfl 4 (by decide) kf_X3_26 (by decide +kernel) hin rfl rfl rfl (Nat.le_of_ble_eq_true rfl) rfl dX3_init_36 ?_
  refine n_aload_n 39 O dX3_init_39 rfl 0 rfl ?_
  refine n_sipush 40 O (v := 640) dX3_init_40 (by decide) ?_
  refine n_newa 43 O (atype := .long) (cA := E.cJ) 2 rfl rfl ka_long (640, .inr (.inl (fun _ => 0))) (N := 640) (fun _ => rfl) (by decide) rfl (Nat.le_of_ble_eq_true rfl) (Nat.le_of_ble_eq_true rfl) (Nat.le_of_ble_eq_true rfl) dX3_init_43 (fun q43 => ?_)
  refine n_putF 45 O inX3 tyX3_ok nmX3 ([(h0, .inr (3, [.ref q6, .ref q13, .ref q20, .ref q27, .ref q34, .ref q43, .int 0, .int 0, .int 0, .int 0, .long 0])), (q6, .inl (E.cI, 4, .inl (fun _ => 0))), (q13, .inl (E.cZ, 4, .inl (fun _ => 0))), (q20, .inl (E.cZ, 4, .inl (fun _ => 0))), (q27, .inl (E.cJ, 4, .inr (.inl (fun _ => 0)))), (q34, .inl (E.cJ, 4, .inr (.inl (fun _ => 0)))), (q43, .inl (E.cJ, 640, .inr (.inl (fun _ => 0))))]) 0 rfl rfl 5 (by decide) kf_X3_29 (by decide +kernel) hin rfl rfl rfl (Nat.le_of_ble_eq_true rfl) rfl dX3_init_45 ?_
  exact n_vret 48 O (fun i => [h0, q6, q13, q20, q27, q34, q43].getD i 0) rfl rfl (Nat.le_of_ble_eq_true rfl) (Nat.le_of_ble_eq_true rfl) dX3_init_48
