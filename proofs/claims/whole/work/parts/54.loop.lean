/-! the loop of the law -/
theorem and31 (p : Int32) : ∃ k : Nat, k < 32 ∧ p &&& 31 = nI k := by
  refine ⟨p.toUInt32.toNat % 32, Nat.mod_lt _ (by decide), ?_⟩
  refine Int32.toBitVec_inj.mp (BitVec.eq_of_toNat_eq ?_)
  have h1 : (p &&& 31).toBitVec.toNat = p.toBitVec.toNat &&& 31 := by rw [Int32.toBitVec_and, BitVec.toNat_and]; rfl
  have h2 : p.toBitVec.toNat &&& 31 = p.toBitVec.toNat % 32 := Nat.and_two_pow_sub_one_eq_mod _ 5
  rw [h1, h2]
  show p.toBitVec.toNat % 32 = (BitVec.ofNat 32 (p.toBitVec.toNat % 32)).toNat
  rw [BitVec.toNat_ofNat]
  have : p.toBitVec.toNat % 32 < 32 := Nat.mod_lt _ (by decide)
  omega
theorem sub4 {L0 i : Nat} (hL : L0 ≤ 256) (hi : i < 2 ^ 31) (h : ¬ nI L0 - 4 < nI i) : i + 4 ≤ L0 := by
  rcases Nat.lt_or_ge L0 4 with q | q
  · exfalso
    have hn : nI L0 - 4 < 0 := by
      match L0, q with
      | 0, _ => decide
      | 1, _ => decide
      | 2, _ => decide
      | 3, _ => decide
    exact h (Int32.lt_of_lt_of_le hn (nI_pos' hi))
  · obtain ⟨k, rfl⟩ : ∃ k, L0 = k + 4 := ⟨L0 - 4, by omega⟩
    have e : nI (k + 4) - 4 = nI k := by rw [← nI_add k 4]; exact Int32.add_sub_cancel _ _
    rw [e] at h
    have h2 : ¬ k < i := fun z => h ((nI_ltI (by omega) hi).mpr z)
    omega
section LL
variable {l : Launch} {E : Ev} {A : Nat → Prop} {X : Bx} {Q : State → Prop} {u v : Nat → Nat} {b L0 : Nat} {xs : Nat → Int32}
set_option maxHeartbeats 8000000 in
theorem law_loop (hL : L0 ≤ 256) (P : LOk E A X u v b L0 xs) (hE : ∀ (ws : va_W) (lv : List (Nat × Value)), NG l E A X Q 4 ws 60 2881 812 lv [.int 1]) :
    ∀ (n i : Nat) (σ : Xc) (τ : Mc) (S : AS), L0 < i + n → i ≤ 256 → RX σ S → RM τ S → NG l E A X Q 4 (wX E u σ ++ wM E v τ) 60 2881 18 (lvL b (u 0) (v 0) (nI i)) [] := by
  intro n
  induction n with
  | zero =>
    intro i σ τ S h1 h2 hR hM
    refine n_iload_n 18 P.1 dL_law_18 rfl 3 rfl ?_
    refine n_aload_n 19 P.1 dL_law_19 rfl 0 rfl ?_
    refine n_slen 20 P dL_law_20 ?_
    refine n_iconst 21 P.1 (v := 4) dL_law_21 (by decide) ?_
    refine n_isub 22 P.1 dL_law_22 ?_
    refine n_icmp_gt 23 P.1 811 dL_law_23 (by decide) (fun _ => ?_) (fun h => ?_)
    · exact n_iconst 811 P.1 dL_law_811 (by decide) (hE _ _)
    · exact absurd (sub4 hL (by omega) h) (by omega)
  | succ n ih =>
    intro i σ τ S h1 h2 hR hM
    refine n_iload_n 18 P.1 dL_law_18 rfl 3 rfl ?_
    refine n_aload_n 19 P.1 dL_law_19 rfl 0 rfl ?_
    refine n_slen 20 P dL_law_20 ?_
    refine n_iconst 21 P.1 (v := 4) dL_law_21 (by decide) ?_
    refine n_isub 22 P.1 dL_law_22 ?_
    refine n_icmp_gt 23 P.1 811 dL_law_23 (by decide) (fun _ => ?_) (fun h => ?_)
    · exact n_iconst 811 P.1 dL_law_811 (by decide) (hE _ _)
    · have h4 : i + 4 ≤ L0 := sub4 hL (by omega) h
      have i0 : vp_in (nI i) L0 := vp_in_nI (by omega) (by omega)
      have i1 : vp_in (nI i + 1) L0 := by rw [nI_1]; exact vp_in_nI (by omega) (by omega)
      have i2 : vp_in (nI i + 2) L0 := by have e : nI i + 2 = nI (i + 2) := nI_add i 2; rw [e]; exact vp_in_nI (by omega) (by omega)
      have i3 : vp_in (nI i + 3) L0 := by have e : nI i + 3 = nI (i + 3) := nI_add i 3; rw [e]; exact vp_in_nI (by omega) (by omega)
      have kk : ∀ (σ : Xc) (τ : Mc) (S : AS), RX σ S → RM τ S → NG l E A X Q 4 (wX E u σ ++ wM E v τ) 60 2881 805 (lvL b (u 0) (v 0) (nI i)) [] := by
        intro σ τ S hR hM
        refine n_iinc 805 P.1 (v := nI (i + 4)) (q := 3) (lv' := [(3, .int (nI (i + 4))), (0, .ref b), (1, .ref (u 0)), (2, .ref (v 0))]) dL_law_805 rfl (nI_add i 4) (by decide) rfl ?_
        refine n_goto 808 P.1 18 dL_law_808 (by decide) ?_
        exact n_sub [1, 2, 3, 0] rfl (ih (i + 4) σ τ S (by omega) (by omega) hR hM)
      refine n_aload_n 26 P.1 dL_law_26 rfl 0 rfl ?_
      refine n_iload_n 27 P.1 dL_law_27 rfl 3 rfl ?_
      refine n_sld 28 P i0 dL_law_28 ?_
      refine n_bipush 29 P.1 (v := 31) dL_law_29 (by decide) ?_
      refine n_iand 31 P.1 dL_law_31 ?_
      obtain ⟨k, hk, e⟩ := and31 (xs (nI i).toNatClampNeg)
      rw [e]
      clear e
      match k, hk with
      | 0, _ => exact n_tabIn 32 P.1 (off := 128) 160 dL_law_32 (by decide +kernel) (by decide +kernel) rfl (by decide) (lc_letter P i1 hR hM kk)
      | 1, _ => exact n_tabIn 32 P.1 (off := 151) 183 dL_law_32 (by decide +kernel) (by decide +kernel) rfl (by decide) (lc_blank P hR hM kk)
      | 2, _ => exact n_tabIn 32 P.1 (off := 164) 196 dL_law_32 (by decide +kernel) (by decide +kernel) rfl (by decide) (lc_fault P i1 hR hM kk)
      | 3, _ => exact n_tabIn 32 P.1 (off := 187) 219 dL_law_32 (by decide +kernel) (by decide +kernel) rfl (by decide) (lc_say P hR hM kk)
      | 4, _ => exact n_tabIn 32 P.1 (off := 200) 232 dL_law_32 (by decide +kernel) (by decide +kernel) rfl (by decide) (lc_senses P hR hM kk)
      | 5, _ => exact n_tabIn 32 P.1 (off := 213) 245 dL_law_32 (by decide +kernel) (by decide +kernel) rfl (by decide) (lc_sense P i1 hR hM kk)
      | 6, _ => exact n_tabIn 32 P.1 (off := 236) 268 dL_law_32 (by decide +kernel) (by decide +kernel) rfl (by decide) (lc_reading P i1 hR hM kk)
      | 7, _ => exact n_tabIn 32 P.1 (off := 259) 291 dL_law_32 (by decide +kernel) (by decide +kernel) rfl (by decide) (lc_isSo P i1 i2 hR hM kk)
      | 8, _ => exact n_tabIn 32 P.1 (off := 292) 324 dL_law_32 (by decide +kernel) (by decide +kernel) rfl (by decide) (lc_come P i1 hR hM kk)
      | 9, _ => exact n_tabIn 32 P.1 (off := 315) 347 dL_law_32 (by decide +kernel) (by decide +kernel) rfl (by decide) (lc_fact P i1 hR hM kk)
      | 10, _ => exact n_tabIn 32 P.1 (off := 338) 370 dL_law_32 (by decide +kernel) (by decide +kernel) rfl (by decide) (lc_set P i1 i2 hR hM kk)
      | 11, _ => exact n_tabIn 32 P.1 (off := 371) 403 dL_law_32 (by decide +kernel) (by decide +kernel) rfl (by decide) (lc_hearer P i1 i2 i3 hR hM kk)
      | 12, _ => exact n_tabIn 32 P.1 (off := 414) 446 dL_law_32 (by decide +kernel) (by decide +kernel) rfl (by decide) (lc_about P i1 i2 hR hM kk)
      | 13, _ => exact n_tabIn 32 P.1 (off := 447) 479 dL_law_32 (by decide +kernel) (by decide +kernel) rfl (by decide) (lc_as P i1 i2 hR hM kk)
      | 14, _ => exact n_tabIn 32 P.1 (off := 480) 512 dL_law_32 (by decide +kernel) (by decide +kernel) rfl (by decide) (lc_act P i1 hR hM kk)
      | 15, _ => exact n_tabIn 32 P.1 (off := 503) 535 dL_law_32 (by decide +kernel) (by decide +kernel) rfl (by decide) (lc_round P hR hM kk)
      | 16, _ => exact n_tabIn 32 P.1 (off := 516) 548 dL_law_32 (by decide +kernel) (by decide +kernel) rfl (by decide) (lc_anyhow P hR hM kk)
      | 17, _ => exact n_tabIn 32 P.1 (off := 529) 561 dL_law_32 (by decide +kernel) (by decide +kernel) rfl (by decide) (lc_left P i1 hR hM kk)
      | 18, _ => exact n_tabIn 32 P.1 (off := 552) 584 dL_law_32 (by decide +kernel) (by decide +kernel) rfl (by decide) (lc_ask P hR hM kk)
      | 19, _ => exact n_tabIn 32 P.1 (off := 565) 597 dL_law_32 (by decide +kernel) (by decide +kernel) rfl (by decide) (lc_add P i1 hR hM kk)
      | 20, _ => exact n_tabIn 32 P.1 (off := 588) 620 dL_law_32 (by decide +kernel) (by decide +kernel) rfl (by decide) (lc_tell P i1 hR hM kk)
      | 21, _ => exact n_tabIn 32 P.1 (off := 611) 643 dL_law_32 (by decide +kernel) (by decide +kernel) rfl (by decide) (lc_then P i1 hR hM kk)
      | 22, _ => exact n_tabIn 32 P.1 (off := 634) 666 dL_law_32 (by decide +kernel) (by decide +kernel) rfl (by decide) (lc_fits P i1 i2 hR hM kk)
      | 23, _ => exact n_tabIn 32 P.1 (off := 667) 699 dL_law_32 (by decide +kernel) (by decide +kernel) rfl (by decide) (lc_times P i1 i2 i3 hR hM kk)
      | 24, _ => exact n_tabIn 32 P.1 (off := 710) 742 dL_law_32 (by decide +kernel) (by decide +kernel) rfl (by decide) (lc_image P hR hM kk)
      | 25, _ => exact n_tabIn 32 P.1 (off := 723) 755 dL_law_32 (by decide +kernel) (by decide +kernel) rfl (by decide) (lc_restore P hR hM kk)
      | 26, _ => exact n_tabIn 32 P.1 (off := 736) 768 dL_law_32 (by decide +kernel) (by decide +kernel) rfl (by decide) (lc_count P i1 hR hM kk)
      | 27, _ => exact n_tabIn 32 P.1 (off := 759) 791 dL_law_32 (by decide +kernel) (by decide +kernel) rfl (by decide) (lc_digest P hR hM kk)
      | 28, _ => exact n_tabOut 32 P.1 805 dL_law_32 (by decide +kernel) (by decide) (kk σ τ S hR hM)
      | 29, _ => exact n_tabOut 32 P.1 805 dL_law_32 (by decide +kernel) (by decide) (kk σ τ S hR hM)
      | 30, _ => exact n_tabOut 32 P.1 805 dL_law_32 (by decide +kernel) (by decide) (kk σ τ S hR hM)
      | 31, _ => exact n_tabOut 32 P.1 805 dL_law_32 (by decide +kernel) (by decide) (kk σ τ S hR hM)
      | k + 32, h => exact absurd h (by omega)
end LL
