theorem bit64s {x : Int64} {k : Nat} (hk : k < 64) : (x >>> ((nI k).toInt64 &&& 63)) &&& 1 = if tb x k = true then 1 else 0 := by
  rw [wb_c k hk]
  apply wb_inj
  rw [Int64.toBitVec_and, Int64.toBitVec_shiftRight, wb_tb, wb_sm k hk]
  apply BitVec.eq_of_getLsbD_eq
  intro i hi
  rw [BitVec.getLsbD_and, BitVec.sshiftRight_eq', BitVec.getLsbD_sshiftRight, BitVec.toNat_ofNat, Nat.mod_eq_of_lt (show k < 2 ^ 64 by omega)]
  have e1 : (1 : Int64).toBitVec = 1#64 := rfl
  rw [e1, BitVec.getLsbD_one]
  unfold tb
  by_cases h0 : i = 0
  · subst h0
    have hk2 : ¬ 64 ≤ 0 + 0 ∧ k + 0 < 64 := by omega
    cases e : x.toBitVec.getLsbD k with
    | true => simp [hk, e]
    | false => simp [hk, e]
  · cases e : x.toBitVec.getLsbD k with
    | true => simp [h0, BitVec.getLsbD_one]
    | false => simp [h0]
theorem ite64 {b : Bool} : ((if b = true then (1 : Int64) else 0)).toInt32 = bi b := by cases b <;> rfl
theorem isin_t {b : Bool} (h : lg_cmp (if b = true then (1 : Int64) else 0) 1 = 0) : b = true := by
  cases b with
  | true => rfl
  | false => exact absurd (lc0 h) (by decide)
theorem isin_f {b : Bool} (h : ¬ lg_cmp (if b = true then (1 : Int64) else 0) 1 = 0) : b = false := by
  cases b with
  | false => rfl
  | true => exact absurd rfl (lc1 h)
def wA (f : Nat) : Nat → Int64
  | 0 => 0
  | i + 1 => wA f i ||| (if (nI i >>> (nI f &&& 31)) &&& 1 = 1 then (1 : Int64) <<< ((nI i).toInt64 &&& 63) else 0)
theorem wA_ok : ∀ f, f < 6 → wA f 64 = Wf f := by decide +kernel

set_option maxRecDepth 100000 in
set_option maxHeartbeats 4000000 in
theorem c_X6_isIn (l : Launch) (E : Ev) {T : Type} (w : T → va_W) (σ : T) (p0 : Int64) (p1 : Int32) (wn : Nat) (hw : p1 = nI wn) (hw0 : wn < 64) : Ctr l yX6_isIn cX6_isIn 3 (some .boolean) 0 0 E (w) [.long p0, .int p1] σ (fun v8 s8 => v8 = some (.int (bi (tb p0 wn))) ∧ s8 = σ) := by
  refine Ctr.of' (by decide +kernel) (Nat.le_of_ble_eq_true rfl) (fun X P0 hP0 O => ?_)
  refine g_sub [0, 1] (lv' := [(0, .long p0), (2, .int p1)]) rfl ?_
  refine g_lload_n 0 O dX6_isIn_0 rfl 0 rfl ?_
  refine g_iload_n 1 O dX6_isIn_1 rfl 1 rfl ?_
  refine g_lshr 2 O dX6_isIn_2 ?_
  refine g_lconst 3 O (v := 1) dX6_isIn_3 (by decide) ?_
  refine g_land 4 O dX6_isIn_4 ?_
  refine g_sl (if tb p0 wn = true then 1 else 0) (by rw [hw]; exact bit64s hw0) ?_
  refine g_lconst 5 O (v := 1) dX6_isIn_5 (by decide) ?_
  refine g_lcmp 6 O dX6_isIn_6 ?_
  refine g_if_ne 7 O 14 dX6_isIn_7 (by decide) (fun h7 => ?_) (fun h7 => ?_)
  · -- taken
    refine g_iconst 14 O (v := 0) dX6_isIn_14 (by decide) ?_
    exact g_zret (rfl) 15 O dX6_isIn_15 (by rw [hP0, isin_f h7]; exact ⟨rfl, rfl⟩)
  · -- not taken
    refine g_iconst 10 O (v := 1) dX6_isIn_10 (by decide) ?_
    refine g_goto 11 O 15 dX6_isIn_11 (by decide) ?_
    exact g_zret (rfl) 15 O dX6_isIn_15 (by rw [hP0, isin_t h7]; exact ⟨rfl, rfl⟩)

set_option maxRecDepth 100000 in
set_option maxHeartbeats 4000000 in
theorem c_X6_size (l : Launch) (E : Ev) {T : Type} (w : T → va_W) (σ : T) (p0 : Int64)  : Ctr l yX6_size cX6_size 4 (some .int) 0 0 E (w) [.long p0] σ (fun v8 s8 => v8 = some (.int (nI (pcn p0))) ∧ s8 = σ) := by
  refine Ctr.of' (by decide +kernel) (Nat.le_of_ble_eq_true rfl) (fun X P0 hP0 O => ?_)
  refine g_sub [0] (lv' := [(0, .long p0)]) rfl ?_
  refine g_iconst 0 O (v := 0) dX6_size_0 (by decide) ?_
  refine g_istore_n 1 O (lv' := [(2, .int 0), (0, .long p0)]) dX6_size_1 rfl (by decide) rfl ?_
  refine g_iconst 2 O (v := 0) dX6_size_2 (by decide) ?_
  refine g_istore_n 3 O (lv' := [(3, .int 0), (2, .int 0), (0, .long p0)]) dX6_size_3 rfl (by decide) rfl ?_
  refine g_sub [0, 1, 2] (lv' := [(3, .int 0), (2, .int 0), (0, .long p0)]) rfl ?_
  have L4 : ∀ (fuel : Nat) (i : Nat) (hi : i ≤ 64), 64 - i < fuel → G l E (w) P0 X 4 σ 4 [(3, .int (nI i)), (2, .int (nI (cn (tb p0) i))), (0, .long p0)] [] := by
    intro fuel
    induction fuel with
    | zero => intro i hi hfu; exact absurd hfu (Nat.not_lt_zero _)
    | succ fuel ih4 =>
      intro i hi hfu
      refine g_iload_n 4 O dX6_size_4 rfl 0 rfl ?_
      refine g_bipush 5 O (v := 64) dX6_size_5 (by decide) ?_
      refine g_icmp_ge 7 O 25 dX6_size_7 (by decide) (fun h7 => ?_) (fun h7 => ?_)
      · -- taken
        have e : i = 64 := by have := ge_of_le (n := 64) (by omega) (by decide) h7; omega
        subst e
        refine g_iload_n 25 O dX6_size_25 rfl 1 rfl ?_
        exact g_iret 26 O dX6_size_26 (by rw [hP0]; exact ⟨rfl, rfl⟩)
      · -- not taken
        have hlt : i < 64 := lt_of_nge (n := 64) (by omega) h7
        refine g_iload_n 10 O dX6_size_10 rfl 1 rfl ?_
        refine g_lload_n 11 O dX6_size_11 rfl 2 rfl ?_
        refine g_iload_n 12 O dX6_size_12 rfl 0 rfl ?_
        refine g_lshr 13 O dX6_size_13 ?_
        refine g_lconst 14 O (v := 1) dX6_size_14 (by decide) ?_
        refine g_land 15 O dX6_size_15 ?_
        refine g_sl (if tb p0 i = true then 1 else 0) (bit64s hlt) ?_
        refine g_l2i 16 O dX6_size_16 ?_
        refine g_si (bi (tb p0 i)) (ite64) ?_
        refine g_iadd 17 O dX6_size_17 ?_
        refine g_si (nI (cn (tb p0) (i + 1))) (bi_add) ?_
        refine g_istore_n 18 O (lv' := [(2, .int (nI (cn (tb p0) (i + 1)))), (3, .int (nI i)), (0, .long p0)]) dX6_size_18 rfl (by decide) rfl ?_
        refine g_iinc 19 O (v := nI (i + 1)) (q := 1) (lv' := [(3, .int (nI (i + 1))), (2, .int (nI (cn (tb p0) (i + 1)))), (0, .long p0)]) dX6_size_19 rfl (nI_1 i) (by decide) rfl ?_
        refine g_goto 22 O 4 dX6_size_22 (by decide) ?_
        refine g_sub [0, 1, 2] (lv' := [(3, .int (nI (i + 1))), (2, .int (nI (cn (tb p0) (i + 1)))), (0, .long p0)]) rfl ?_
        exact ih4 (i + 1) (by omega) (by omega)
  exact L4 _ 0 (Nat.zero_le _) (Nat.lt_succ_self _)

set_option maxRecDepth 100000 in
set_option maxHeartbeats 4000000 in
theorem c_X6_worldsOf (l : Launch) (E : Ev) {T : Type} (w : T → va_W) (σ : T) (p0 : Int32) (f : Nat) (hp : p0 = nI f) (hf : f < 6) : Ctr l yX6_worldsOf cX6_worldsOf 4 (some .long) 0 0 E (w) [.int p0] σ (fun v8 s8 => v8 = some (.long (Wf f)) ∧ s8 = σ) := by
  refine Ctr.of' (by decide +kernel) (Nat.le_of_ble_eq_true rfl) (fun X P0 hP0 O => ?_)
  refine g_sub [0] (lv' := [(0, .int p0)]) rfl ?_
  refine g_lconst 0 O (v := 0) dX6_worldsOf_0 (by decide) ?_
  refine g_lstore_n 1 O (lv' := [(1, .long 0), (0, .int p0)]) dX6_worldsOf_1 rfl (by decide) rfl ?_
  refine g_iconst 2 O (v := 0) dX6_worldsOf_2 (by decide) ?_
  refine g_istore_n 3 O (lv' := [(3, .int 0), (1, .long 0), (0, .int p0)]) dX6_worldsOf_3 rfl (by decide) rfl ?_
  refine g_sub [0, 1, 2] (lv' := [(3, .int 0), (1, .long 0), (0, .int p0)]) rfl ?_
  have L4 : ∀ (fuel : Nat) (i : Nat) (hi : i ≤ 64), 64 - i < fuel → G l E (w) P0 X 4 σ 4 [(3, .int (nI i)), (1, .long (wA f i)), (0, .int p0)] [] := by
    intro fuel
    induction fuel with
    | zero => intro i hi hfu; exact absurd hfu (Nat.not_lt_zero _)
    | succ fuel ih4 =>
      intro i hi hfu
      refine g_iload_n 4 O dX6_worldsOf_4 rfl 0 rfl ?_
      refine g_bipush 5 O (v := 64) dX6_worldsOf_5 (by decide) ?_
      refine g_icmp_ge 7 O 35 dX6_worldsOf_7 (by decide) (fun h7 => ?_) (fun h7 => ?_)
      · -- taken
        have e : i = 64 := by have := ge_of_le (n := 64) (by omega) (by decide) h7; omega
        subst e
        refine g_lload_n 35 O dX6_worldsOf_35 rfl 1 rfl ?_
        exact g_lret 36 O dX6_worldsOf_36 (by rw [hP0, ← wA_ok f hf]; exact ⟨rfl, rfl⟩)
      · -- not taken
        have hlt : i < 64 := lt_of_nge (n := 64) (by omega) h7
        refine g_lload_n 10 O dX6_worldsOf_10 rfl 1 rfl ?_
        refine g_iload_n 11 O dX6_worldsOf_11 rfl 0 rfl ?_
        refine g_iload_n 12 O dX6_worldsOf_12 rfl 2 rfl ?_
        refine g_ishr 13 O dX6_worldsOf_13 ?_
        refine g_iconst 14 O (v := 1) dX6_worldsOf_14 (by decide) ?_
        refine g_iand 15 O dX6_worldsOf_15 ?_
        refine g_iconst 16 O (v := 1) dX6_worldsOf_16 (by decide) ?_
        refine g_icmp_ne 17 O 26 dX6_worldsOf_17 (by decide) (fun h17 => ?_) (fun h17 => ?_)
        · -- taken
          refine g_lconst 26 O (v := 0) dX6_worldsOf_26 (by decide) ?_
          refine g_lor 27 O dX6_worldsOf_27 ?_
          refine g_sl (wA f (i + 1)) (by rw [wA, if_neg (by rw [hp] at h17; exact h17)]) ?_
          refine g_lstore_n 28 O (lv' := [(1, .long (wA f (i + 1))), (3, .int (nI i)), (0, .int p0)]) dX6_worldsOf_28 rfl (by decide) rfl ?_
          refine g_iinc 29 O (v := nI (i + 1)) (q := 1) (lv' := [(3, .int (nI (i + 1))), (1, .long (wA f (i + 1))), (0, .int p0)]) dX6_worldsOf_29 rfl (nI_1 i) (by decide) rfl ?_
          refine g_goto 32 O 4 dX6_worldsOf_32 (by decide) ?_
          refine g_sub [0, 1, 2] (lv' := [(3, .int (nI (i + 1))), (1, .long (wA f (i + 1))), (0, .int p0)]) rfl ?_
          exact ih4 (i + 1) (by omega) (by omega)
        · -- not taken
          refine g_lconst 20 O (v := 1) dX6_worldsOf_20 (by decide) ?_
          refine g_iload_n 21 O dX6_worldsOf_21 rfl 0 rfl ?_
          refine g_lshl 22 O dX6_worldsOf_22 ?_
          refine g_goto 23 O 27 dX6_worldsOf_23 (by decide) ?_
          refine g_lor 27 O dX6_worldsOf_27 ?_
          refine g_sl (wA f (i + 1)) (by rw [wA, if_pos (by rw [hp] at h17; exact h17)]) ?_
          refine g_lstore_n 28 O (lv' := [(1, .long (wA f (i + 1))), (3, .int (nI i)), (0, .int p0)]) dX6_worldsOf_28 rfl (by decide) rfl ?_
          refine g_iinc 29 O (v := nI (i + 1)) (q := 1) (lv' := [(3, .int (nI (i + 1))), (1, .long (wA f (i + 1))), (0, .int p0)]) dX6_worldsOf_29 rfl (nI_1 i) (by decide) rfl ?_
          refine g_goto 32 O 4 dX6_worldsOf_32 (by decide) ?_
          refine g_sub [0, 1, 2] (lv' := [(3, .int (nI (i + 1))), (1, .long (wA f (i + 1))), (0, .int p0)]) rfl ?_
          exact ih4 (i + 1) (by omega) (by omega)
  exact L4 _ 0 (Nat.zero_le _) (Nat.lt_succ_self _)

set_option maxRecDepth 100000 in
set_option maxHeartbeats 4000000 in
theorem c_X6_brackets (l : Launch) (E : Ev) {T : Type} (w : T → va_W) (σ : T) (p0 : Int32) (n : Nat) (hp : p0 = nI n) (hn : n ≤ 4) : Ctr l yX6_brackets cX6_brackets 1 (some .int) 0 0 E (w) [.int p0] σ (fun v8 s8 => v8 = some (.int (nI (nbr n))) ∧ s8 = σ) := by
  refine Ctr.of' (by decide +kernel) (Nat.le_of_ble_eq_true rfl) (fun X P0 hP0 O => ?_)
  refine g_sub [0] (lv' := [(0, .int p0)]) rfl ?_
  refine g_iload_n 0 O dX6_brackets_0 rfl 0 rfl ?_
  refine g_iconst 1 O (v := 3) dX6_brackets_1 (by decide) ?_
  refine g_icmp_ge 2 O 9 dX6_brackets_2 (by decide) (fun h2 => ?_) (fun h2 => ?_)
  · -- taken
    refine g_iload_n 9 O dX6_brackets_9 rfl 0 rfl ?_
    refine g_iconst 10 O (v := 3) dX6_brackets_10 (by decide) ?_
    refine g_icmp_ne 11 O 18 dX6_brackets_11 (by decide) (fun h11 => ?_) (fun h11 => ?_)
    · -- taken
      refine g_iconst 18 O (v := 5) dX6_brackets_18 (by decide) ?_
      exact g_iret 19 O dX6_brackets_19 (by rw [hP0, nbr, if_pos (by rw [hp] at h2 h11; have := ge_of_le (n := 3) (by omega) (by decide) h2; have : ¬ n = 3 := fun e => h11 (by rw [e]; rfl); omega)]; exact ⟨rfl, rfl⟩)
    · -- not taken
      refine g_iconst 14 O (v := 2) dX6_brackets_14 (by decide) ?_
      refine g_goto 15 O 19 dX6_brackets_15 (by decide) ?_
      exact g_iret 19 O dX6_brackets_19 (by rw [hP0, nbr, if_neg (fun e => absurd h11 (by rw [hp, e]; decide)), if_pos ((nI_eq (b := 3) (by omega) (by decide)).mp (hp ▸ h11))]; exact ⟨rfl, rfl⟩)
  · -- not taken
    refine g_iconst 5 O (v := 1) dX6_brackets_5 (by decide) ?_
    refine g_goto 6 O 19 dX6_brackets_6 (by decide) ?_
    exact g_iret 19 O dX6_brackets_19 (by rw [hP0, nbr, if_neg (fun e => absurd h2 (by rw [hp, e]; decide)), if_neg (fun e => absurd h2 (by rw [hp, e]; decide))]; exact ⟨rfl, rfl⟩)

set_option maxRecDepth 100000 in
set_option maxHeartbeats 4000000 in
theorem c_X6_joined (l : Launch) (E : Ev) {T : Type} (w : T → va_W) (σ : T) (p0 : Int64) (p1 : Int32) (p2 : Int64) (b : Bool) (hb : p1 = bi b) : Ctr l yX6_joined cX6_joined 5 (some .long) 0 0 E (w) [.long p0, .int p1, .long p2] σ (fun v8 s8 => v8 = some (.long (jn b p0 p2)) ∧ s8 = σ) := by
  refine Ctr.of' (by decide +kernel) (Nat.le_of_ble_eq_true rfl) (fun X P0 hP0 O => ?_)
  refine g_sub [0, 1, 2] (lv' := [(0, .long p0), (2, .int p1), (3, .long p2)]) rfl ?_
  refine g_iload_n 0 O dX6_joined_0 rfl 1 rfl ?_
  refine g_iconst 1 O (v := 1) dX6_joined_1 (by decide) ?_
  refine g_icmp_ne 2 O 11 dX6_joined_2 (by decide) (fun h2 => ?_) (fun h2 => ?_)
  · -- taken
    refine g_lload_n 11 O dX6_joined_11 rfl 0 rfl ?_
    refine g_lload_n 12 O dX6_joined_12 rfl 2 rfl ?_
    refine g_land 13 O dX6_joined_13 ?_
    exact g_lret 14 O dX6_joined_14 (by rw [hP0, show b = false from by cases b with | true => exact absurd hb h2 | false => rfl]; exact ⟨rfl, rfl⟩)
  · -- not taken
    refine g_lload_n 5 O dX6_joined_5 rfl 0 rfl ?_
    refine g_lload_n 6 O dX6_joined_6 rfl 2 rfl ?_
    refine g_lor 7 O dX6_joined_7 ?_
    refine g_goto 8 O 14 dX6_joined_8 (by decide) ?_
    exact g_lret 14 O dX6_joined_14 (by rw [hP0, show b = true from by cases b with | true => rfl | false => exact absurd (hb.symm.trans h2) (by decide)]; exact ⟨rfl, rfl⟩)

set_option maxRecDepth 100000 in
set_option maxHeartbeats 4000000 in
theorem c_X6_with (l : Launch) (E : Ev) {T : Type} (w : T → va_W) (σ : T) (p0 p1 p2 : Int32)  : Ctr l yX6_with cX6_with 3 (some .int) 0 0 E (w) [.int p0, .int p1, .int p2] σ (fun v8 s8 => v8 = some (.int (p0 &&& ((1 <<< (p1 &&& 31)) ^^^ (-1)) ||| p2 <<< (p1 &&& 31))) ∧ s8 = σ) := by
  refine Ctr.of' (by decide +kernel) (Nat.le_of_ble_eq_true rfl) (fun X P0 hP0 O => ?_)
  refine g_sub [0, 1, 2] (lv' := [(0, .int p0), (1, .int p1), (2, .int p2)]) rfl ?_
  refine g_iload_n 0 O dX6_with_0 rfl 0 rfl ?_
  refine g_iconst 1 O (v := 1) dX6_with_1 (by decide) ?_
  refine g_iload_n 2 O dX6_with_2 rfl 1 rfl ?_
  refine g_ishl 3 O dX6_with_3 ?_
  refine g_iconst 4 O (v := (-1)) dX6_with_4 (by decide) ?_
  refine g_ixor 5 O dX6_with_5 ?_
  refine g_iand 6 O dX6_with_6 ?_
  refine g_iload_n 7 O dX6_with_7 rfl 2 rfl ?_
  refine g_iload_n 8 O dX6_with_8 rfl 1 rfl ?_
  refine g_ishl 9 O dX6_with_9 ?_
  refine g_ior 10 O dX6_with_10 ?_
  exact g_iret 11 O dX6_with_11 (by rw [hP0]; exact ⟨rfl, rfl⟩)

/-- one letter more: r the state then (-1: none), n2 w2 j2 the words, rows then -/
def NXT (st n : Nat) (c r n2 : Int32) (w w2 j j2 : Nat → Int32) : Prop :=
  (st = 2 ∧ ((c = 38 ∨ c = 43) ∧ n < 4) ∧ r = 0 ∧ n2 = nI n ∧ w2 = w ∧ j2 = upd j (n - 1) (bi (decide (c = 43)))) ∨
  (st = 2 ∧ ¬ ((c = 38 ∨ c = 43) ∧ n < 4) ∧ r = -1 ∧ n2 = nI n ∧ w2 = w ∧ j2 = upd j (n - 1) (bi (decide (c = 43)))) ∨
  (st = 0 ∧ c = 110 ∧ r = 1 ∧ n2 = nI n ∧ w2 = w ∧ j2 = j) ∨
  (¬ st = 2 ∧ ¬ (st = 0 ∧ c = 110) ∧ (97 ≤ c ∧ c ≤ 102) ∧ r = 2 ∧ n2 = nI (n + 1) ∧ w2 = upd w n (2 * (c - 97) + nI st) ∧ j2 = j) ∨
  (¬ st = 2 ∧ ¬ (st = 0 ∧ c = 110) ∧ ¬ (97 ≤ c ∧ c ≤ 102) ∧ r = -1 ∧ n2 = nI n ∧ w2 = w ∧ j2 = j)

set_option maxRecDepth 100000 in
set_option maxHeartbeats 4000000 in
theorem c_X6_nextState (l : Launch) (E : Ev) (a : Nat → Nat) (mw msd mn mon mhn mrd mtn mad mpn : Int32) (se wo jf ow oj kf ff vf cf tf pb : Nat → Int32) (fat whl : Int32) (nwd njn : Nat → Int32) (rd : Int32) (so vl : Nat → Int64) (jg : Nat → Int32) (tko : Nat → Int32) (sdn hh_ : Int64) (ik kw kh kr kt : Int32) (kc ko : Nat → Int32) (p0 p1 : Int32) (st n : Nat) (hst : p0 = nI st) (hst3 : st ≤ 2) (hn : n ≤ 4) (hn1 : st = 2 → 0 < n) : Ctr l yX6_nextState cX6_nextState 4 (some .int) 1 22 E (wM E a) [.ref (a 0), .int p0, .int p1] (((mw, msd, mn, mon, mhn, mrd, mtn, mad, mpn), (se, wo, jf, ow, oj, kf, ff, vf, cf, tf, pb), (fat, whl, (nI n), nwd, njn), (rd, so, vl, jg), tko, (sdn, hh_), (ik, kw, kh, kr, kt, kc, ko))) (pI (fun r x => ∃ (n2 : Int32) (w2 j2 : Nat → Int32), x = ((mw, msd, mn, mon, mhn, mrd, mtn, mad, mpn), (se, wo, jf, ow, oj, kf, ff, vf, cf, tf, pb), (fat, whl, n2, w2, j2), (rd, so, vl, jg), tko, (sdn, hh_), (ik, kw, kh, kr, kt, kc, ko)) ∧ NXT st n p1 r n2 nwd w2 njn j2)) := by
  refine Ctr.of' (by decide +kernel) (Nat.le_of_ble_eq_true rfl) (fun X P0 hP0 O => ?_)
  refine g_sub [0, 1, 2] (lv' := [(0, .ref (a 0)), (1, .int p0), (2, .int p1)]) rfl ?_
  refine g_iload_n 0 O dX6_nextState_0 rfl 1 rfl ?_
  refine g_iconst 1 O (v := 2) dX6_nextState_1 (by decide) ?_
  refine g_icmp_ne 2 O 63 dX6_nextState_2 (by decide) (fun h2 => ?_) (fun h2 => ?_)
  · -- taken
    have hst2 : ¬ st = 2 := fun e => h2 (by rw [hst, e]; rfl)
    refine g_iload_n 63 O dX6_nextState_63 rfl 1 rfl ?_
    refine g_if_ne 64 O 75 dX6_nextState_64 (by decide) (fun h64 => ?_) (fun h64 => ?_)
    · -- taken
      refine g_iload_n 75 O dX6_nextState_75 rfl 2 rfl ?_
      refine g_bipush 76 O (v := 97) dX6_nextState_76 (by decide) ?_
      refine g_bipush 78 O (v := 102) dX6_nextState_78 (by decide) ?_
      refine g_callS 80 O (na := 3) (av := [.int p1, .int 97, .int 102]) (c_X6_within l E _ _ p1 97 102) kl_X6_69 ks_X6_within ki_X6 kc_X6_within (by decide +kernel) rfl (Nat.le_of_ble_eq_true rfl) (Nat.le_of_ble_eq_true rfl) (fun _ h => h) (fun s => s) (fun _ _ _ _ h => h) rfl (Nat.le_of_ble_eq_true rfl) dX6_nextState_80 (fun v9 s9 hv9 => ?_)
      obtain ⟨rfl, rfl⟩ := hv9
      refine g_if_ne 83 O 88 dX6_nextState_83 (by decide) (fun h83 => ?_) (fun h83 => ?_)
      · -- taken
        refine g_aload_n 88 O dX6_nextState_88 rfl 0 rfl ?_
        refine g_get 89 O (v := .ref (a 12)) inX6 0 rfl rfl 23 (by decide) kf_X6_44 rfl dX6_nextState_89 ?_
        refine g_aload_n 92 O dX6_nextState_92 rfl 0 rfl ?_
        refine g_get 93 O (v := .int ((nI n))) inX6 0 rfl rfl 22 (by decide) kf_X6_77 rfl dX6_nextState_93 ?_
        refine g_iconst 96 O (v := 2) dX6_nextState_96 (by decide) ?_
        refine g_iload_n 97 O dX6_nextState_97 rfl 2 rfl ?_
        refine g_bipush 98 O (v := 97) dX6_nextState_98 (by decide) ?_
        refine g_isub 100 O dX6_nextState_100 ?_
        refine g_imul 101 O dX6_nextState_101 ?_
        refine g_iload_n 102 O dX6_nextState_102 rfl 1 rfl ?_
        refine g_iadd 103 O dX6_nextState_103 ?_
        refine g_iast 104 O (((mw, msd, mn, mon, mhn, mrd, mtn, mad, mpn), (se, wo, jf, ow, oj, kf, ff, vf, cf, tf, pb), (fat, whl, (nI n), upd nwd n ((2 * (p1 - 97)) + p0), njn), (rd, so, vl, jg), tko, (sdn, hh_), (ik, kw, kh, kr, kt, kc, ko))) 12 n rfl (rfl) (by omega) (by decide) rfl dX6_nextState_104 ?_
        refine g_aload_n 105 O dX6_nextState_105 rfl 0 rfl ?_
        refine g_dup 106 O dX6_nextState_106 rfl ?_
        refine g_get 107 O (v := .int ((nI n))) inX6 0 rfl rfl 22 (by decide) kf_X6_77 rfl dX6_nextState_107 ?_
        refine g_iconst 110 O (v := 1) dX6_nextState_110 (by decide) ?_
        refine g_iadd 111 O dX6_nextState_111 ?_
        refine g_si (nI (n + 1)) (nI_1 n) ?_
        refine g_put 112 O inX6 tyX6_ok nmX6 (((mw, msd, mn, mon, mhn, mrd, mtn, mad, mpn), (se, wo, jf, ow, oj, kf, ff, vf, cf, tf, pb), (fat, whl, nI (n + 1), upd nwd n ((2 * (p1 - 97)) + p0), njn), (rd, so, vl, jg), tko, (sdn, hh_), (ik, kw, kh, kr, kt, kc, ko))) 0 rfl rfl 22 (by decide) kf_X6_77 rfl (rfl) (rfl) (Nat.le_of_ble_eq_true rfl) rfl dX6_nextState_112 ?_
        refine g_iconst 115 O (v := 2) dX6_nextState_115 (by decide) ?_
        exact g_iret 116 O dX6_nextState_116 (by rw [hP0]; exact ⟨_, rfl, _, _, _, rfl, Or.inr (Or.inr (Or.inr (Or.inl ⟨hst2, fun q => h64 (by rw [hst, q.1]; rfl), ite_t h83, rfl, rfl, by rw [hst], rfl⟩)))⟩)
      · -- not taken
        refine g_iconst 86 O (v := (-1)) dX6_nextState_86 (by decide) ?_
        exact g_iret 87 O dX6_nextState_87 (by rw [hP0]; exact ⟨_, rfl, _, _, _, rfl, Or.inr (Or.inr (Or.inr (Or.inr ⟨hst2, fun q => h64 (by rw [hst, q.1]; rfl), ite_f h83, rfl, rfl, rfl, rfl⟩)))⟩)
    · -- not taken
      have hst0 : st = 0 := by rw [hst] at h64; exact (nI_eq (b := 0) (by omega) (by decide)).mp h64
      refine g_iload_n 67 O dX6_nextState_67 rfl 2 rfl ?_
      refine g_bipush 68 O (v := 110) dX6_nextState_68 (by decide) ?_
      refine g_icmp_ne 70 O 75 dX6_nextState_70 (by decide) (fun h70 => ?_) (fun h70 => ?_)
      · -- taken
        refine g_iload_n 75 O dX6_nextState_75 rfl 2 rfl ?_
        refine g_bipush 76 O (v := 97) dX6_nextState_76 (by decide) ?_
        refine g_bipush 78 O (v := 102) dX6_nextState_78 (by decide) ?_
        refine g_callS 80 O (na := 3) (av := [.int p1, .int 97, .int 102]) (c_X6_within l E _ _ p1 97 102) kl_X6_69 ks_X6_within ki_X6 kc_X6_within (by decide +kernel) rfl (Nat.le_of_ble_eq_true rfl) (Nat.le_of_ble_eq_true rfl) (fun _ h => h) (fun s => s) (fun _ _ _ _ h => h) rfl (Nat.le_of_ble_eq_true rfl) dX6_nextState_80 (fun v9 s9 hv9 => ?_)
        obtain ⟨rfl, rfl⟩ := hv9
        refine g_if_ne 83 O 88 dX6_nextState_83 (by decide) (fun h83 => ?_) (fun h83 => ?_)
        · -- taken
          refine g_aload_n 88 O dX6_nextState_88 rfl 0 rfl ?_
          refine g_get 89 O (v := .ref (a 12)) inX6 0 rfl rfl 23 (by decide) kf_X6_44 rfl dX6_nextState_89 ?_
          refine g_aload_n 92 O dX6_nextState_92 rfl 0 rfl ?_
          refine g_get 93 O (v := .int ((nI n))) inX6 0 rfl rfl 22 (by decide) kf_X6_77 rfl dX6_nextState_93 ?_
          refine g_iconst 96 O (v := 2) dX6_nextState_96 (by decide) ?_
          refine g_iload_n 97 O dX6_nextState_97 rfl 2 rfl ?_
          refine g_bipush 98 O (v := 97) dX6_nextState_98 (by decide) ?_
          refine g_isub 100 O dX6_nextState_100 ?_
          refine g_imul 101 O dX6_nextState_101 ?_
          refine g_iload_n 102 O dX6_nextState_102 rfl 1 rfl ?_
          refine g_iadd 103 O dX6_nextState_103 ?_
          refine g_iast 104 O (((mw, msd, mn, mon, mhn, mrd, mtn, mad, mpn), (se, wo, jf, ow, oj, kf, ff, vf, cf, tf, pb), (fat, whl, (nI n), upd nwd n ((2 * (p1 - 97)) + p0), njn), (rd, so, vl, jg), tko, (sdn, hh_), (ik, kw, kh, kr, kt, kc, ko))) 12 n rfl (rfl) (by omega) (by decide) rfl dX6_nextState_104 ?_
          refine g_aload_n 105 O dX6_nextState_105 rfl 0 rfl ?_
          refine g_dup 106 O dX6_nextState_106 rfl ?_
          refine g_get 107 O (v := .int ((nI n))) inX6 0 rfl rfl 22 (by decide) kf_X6_77 rfl dX6_nextState_107 ?_
          refine g_iconst 110 O (v := 1) dX6_nextState_110 (by decide) ?_
          refine g_iadd 111 O dX6_nextState_111 ?_
          refine g_si (nI (n + 1)) (nI_1 n) ?_
          refine g_put 112 O inX6 tyX6_ok nmX6 (((mw, msd, mn, mon, mhn, mrd, mtn, mad, mpn), (se, wo, jf, ow, oj, kf, ff, vf, cf, tf, pb), (fat, whl, nI (n + 1), upd nwd n ((2 * (p1 - 97)) + p0), njn), (rd, so, vl, jg), tko, (sdn, hh_), (ik, kw, kh, kr, kt, kc, ko))) 0 rfl rfl 22 (by decide) kf_X6_77 rfl (rfl) (rfl) (Nat.le_of_ble_eq_true rfl) rfl dX6_nextState_112 ?_
          refine g_iconst 115 O (v := 2) dX6_nextState_115 (by decide) ?_
          exact g_iret 116 O dX6_nextState_116 (by rw [hP0]; exact ⟨_, rfl, _, _, _, rfl, Or.inr (Or.inr (Or.inr (Or.inl ⟨hst2, fun q => h70 q.2, ite_t h83, rfl, rfl, by rw [hst], rfl⟩)))⟩)
        · -- not taken
          refine g_iconst 86 O (v := (-1)) dX6_nextState_86 (by decide) ?_
          exact g_iret 87 O dX6_nextState_87 (by rw [hP0]; exact ⟨_, rfl, _, _, _, rfl, Or.inr (Or.inr (Or.inr (Or.inr ⟨hst2, fun q => h70 q.2, ite_f h83, rfl, rfl, rfl, rfl⟩)))⟩)
      · -- not taken
        refine g_iconst 73 O (v := 1) dX6_nextState_73 (by decide) ?_
        exact g_iret 74 O dX6_nextState_74 (by rw [hP0]; exact ⟨_, rfl, _, _, _, rfl, Or.inr (Or.inr (Or.inl ⟨hst0, h70, rfl, rfl, rfl, rfl⟩))⟩)
  · -- not taken
    have hst2 : st = 2 := by rw [hst] at h2; exact (nI_eq (b := 2) (by omega) (by decide)).mp h2
    refine g_iload_n 5 O dX6_nextState_5 rfl 2 rfl ?_
    refine g_bipush 6 O (v := 38) dX6_nextState_6 (by decide) ?_
    refine g_icmp_eq 8 O 17 dX6_nextState_8 (by decide) (fun h8 => ?_) (fun h8 => ?_)
    · -- taken
      refine g_aload_n 17 O dX6_nextState_17 rfl 0 rfl ?_
      refine g_get 18 O (v := .int ((nI n))) inX6 0 rfl rfl 22 (by decide) kf_X6_77 rfl dX6_nextState_18 ?_
      refine g_iconst 21 O (v := 4) dX6_nextState_21 (by decide) ?_
      refine g_icmp_ge 22 O 29 dX6_nextState_22 (by decide) (fun h22 => ?_) (fun h22 => ?_)
      · -- taken
        refine g_iconst 29 O (v := 0) dX6_nextState_29 (by decide) ?_
        refine g_istore_n 30 O (lv' := [(3, .int 0), (0, .ref (a 0)), (1, .int p0), (2, .int p1)]) dX6_nextState_30 rfl (by decide) rfl ?_
        refine g_aload_n 31 O dX6_nextState_31 rfl 1 rfl ?_
        refine g_get 32 O (v := .ref (a 13)) inX6 0 rfl rfl 24 (by decide) kf_X6_47 rfl dX6_nextState_32 ?_
        refine g_aload_n 35 O dX6_nextState_35 rfl 1 rfl ?_
        refine g_get 36 O (v := .int ((nI n))) inX6 0 rfl rfl 22 (by decide) kf_X6_77 rfl dX6_nextState_36 ?_
        refine g_iconst 39 O (v := 1) dX6_nextState_39 (by decide) ?_
        refine g_isub 40 O dX6_nextState_40 ?_
        refine g_iload_n 41 O dX6_nextState_41 rfl 3 rfl ?_
        refine g_bipush 42 O (v := 43) dX6_nextState_42 (by decide) ?_
        refine g_icmp_ne 44 O 51 dX6_nextState_44 (by decide) (fun h44 => ?_) (fun h44 => ?_)
        · -- taken
          refine g_iconst 51 O (v := 0) dX6_nextState_51 (by decide) ?_
          refine g_iast 52 O (((mw, msd, mn, mon, mhn, mrd, mtn, mad, mpn), (se, wo, jf, ow, oj, kf, ff, vf, cf, tf, pb), (fat, whl, (nI n), nwd, upd njn ((n - 1)) 0), (rd, so, vl, jg), tko, (sdn, hh_), (ik, kw, kh, kr, kt, kc, ko))) 13 ((n - 1)) rfl (pk_sub (b := 1) (by have := hn1 hst2; omega)) (by omega) (by decide) rfl dX6_nextState_52 ?_
          refine g_iload_n 53 O dX6_nextState_53 rfl 0 rfl ?_
          refine g_if_eq 54 O 61 dX6_nextState_54 (by decide) (fun h54 => ?_) (fun h54 => False.elim (absurd h54 (by decide)))
          refine g_iconst 61 O (v := (-1)) dX6_nextState_61 (by decide) ?_
          exact g_iret 62 O dX6_nextState_62 (by rw [hP0]; exact ⟨_, rfl, _, _, _, rfl, Or.inr (Or.inl ⟨hst2, fun q => absurd (ge_of_le (n := 4) (by omega) (by decide) h22) (by have := q.2; omega), rfl, rfl, rfl, congrArg (upd njn (n - 1)) (by rw [decide_eq_false h44]; rfl)⟩)⟩)
        · -- not taken
          refine g_iconst 47 O (v := 1) dX6_nextState_47 (by decide) ?_
          refine g_goto 48 O 52 dX6_nextState_48 (by decide) ?_
          refine g_iast 52 O (((mw, msd, mn, mon, mhn, mrd, mtn, mad, mpn), (se, wo, jf, ow, oj, kf, ff, vf, cf, tf, pb), (fat, whl, (nI n), nwd, upd njn ((n - 1)) 1), (rd, so, vl, jg), tko, (sdn, hh_), (ik, kw, kh, kr, kt, kc, ko))) 13 ((n - 1)) rfl (pk_sub (b := 1) (by have := hn1 hst2; omega)) (by omega) (by decide) rfl dX6_nextState_52 ?_
          refine g_iload_n 53 O dX6_nextState_53 rfl 0 rfl ?_
          refine g_if_eq 54 O 61 dX6_nextState_54 (by decide) (fun h54 => ?_) (fun h54 => False.elim (absurd h54 (by decide)))
          refine g_iconst 61 O (v := (-1)) dX6_nextState_61 (by decide) ?_
          exact g_iret 62 O dX6_nextState_62 (by rw [hP0]; exact ⟨_, rfl, _, _, _, rfl, Or.inr (Or.inl ⟨hst2, fun q => absurd (ge_of_le (n := 4) (by omega) (by decide) h22) (by have := q.2; omega), rfl, rfl, rfl, congrArg (upd njn (n - 1)) (by rw [decide_eq_true h44]; rfl)⟩)⟩)
      · -- not taken
        refine g_iconst 25 O (v := 1) dX6_nextState_25 (by decide) ?_
        refine g_goto 26 O 30 dX6_nextState_26 (by decide) ?_
        refine g_istore_n 30 O (lv' := [(3, .int 1), (0, .ref (a 0)), (1, .int p0), (2, .int p1)]) dX6_nextState_30 rfl (by decide) rfl ?_
        refine g_aload_n 31 O dX6_nextState_31 rfl 1 rfl ?_
        refine g_get 32 O (v := .ref (a 13)) inX6 0 rfl rfl 24 (by decide) kf_X6_47 rfl dX6_nextState_32 ?_
        refine g_aload_n 35 O dX6_nextState_35 rfl 1 rfl ?_
        refine g_get 36 O (v := .int ((nI n))) inX6 0 rfl rfl 22 (by decide) kf_X6_77 rfl dX6_nextState_36 ?_
        refine g_iconst 39 O (v := 1) dX6_nextState_39 (by decide) ?_
        refine g_isub 40 O dX6_nextState_40 ?_
        refine g_iload_n 41 O dX6_nextState_41 rfl 3 rfl ?_
        refine g_bipush 42 O (v := 43) dX6_nextState_42 (by decide) ?_
        refine g_icmp_ne 44 O 51 dX6_nextState_44 (by decide) (fun h44 => ?_) (fun h44 => ?_)
        · -- taken
          refine g_iconst 51 O (v := 0) dX6_nextState_51 (by decide) ?_
          refine g_iast 52 O (((mw, msd, mn, mon, mhn, mrd, mtn, mad, mpn), (se, wo, jf, ow, oj, kf, ff, vf, cf, tf, pb), (fat, whl, (nI n), nwd, upd njn ((n - 1)) 0), (rd, so, vl, jg), tko, (sdn, hh_), (ik, kw, kh, kr, kt, kc, ko))) 13 ((n - 1)) rfl (pk_sub (b := 1) (by have := hn1 hst2; omega)) (by omega) (by decide) rfl dX6_nextState_52 ?_
          refine g_iload_n 53 O dX6_nextState_53 rfl 0 rfl ?_
          refine g_if_eq 54 O 61 dX6_nextState_54 (by decide) (fun h54 => False.elim (absurd h54 (by decide))) (fun h54 => ?_)
          refine g_iconst 57 O (v := 0) dX6_nextState_57 (by decide) ?_
          refine g_goto 58 O 62 dX6_nextState_58 (by decide) ?_
          exact g_iret 62 O dX6_nextState_62 (by rw [hP0]; exact ⟨_, rfl, _, _, _, rfl, Or.inl ⟨hst2, ⟨Or.inl h8, lt_of_nge (n := 4) (by omega) h22⟩, rfl, rfl, rfl, congrArg (upd njn (n - 1)) (by rw [decide_eq_false h44]; rfl)⟩⟩)
        · -- not taken
          refine g_iconst 47 O (v := 1) dX6_nextState_47 (by decide) ?_
          refine g_goto 48 O 52 dX6_nextState_48 (by decide) ?_
          refine g_iast 52 O (((mw, msd, mn, mon, mhn, mrd, mtn, mad, mpn), (se, wo, jf, ow, oj, kf, ff, vf, cf, tf, pb), (fat, whl, (nI n), nwd, upd njn ((n - 1)) 1), (rd, so, vl, jg), tko, (sdn, hh_), (ik, kw, kh, kr, kt, kc, ko))) 13 ((n - 1)) rfl (pk_sub (b := 1) (by have := hn1 hst2; omega)) (by omega) (by decide) rfl dX6_nextState_52 ?_
          refine g_iload_n 53 O dX6_nextState_53 rfl 0 rfl ?_
          refine g_if_eq 54 O 61 dX6_nextState_54 (by decide) (fun h54 => False.elim (absurd h54 (by decide))) (fun h54 => ?_)
          refine g_iconst 57 O (v := 0) dX6_nextState_57 (by decide) ?_
          refine g_goto 58 O 62 dX6_nextState_58 (by decide) ?_
          exact g_iret 62 O dX6_nextState_62 (by rw [hP0]; exact ⟨_, rfl, _, _, _, rfl, Or.inl ⟨hst2, ⟨Or.inl h8, lt_of_nge (n := 4) (by omega) h22⟩, rfl, rfl, rfl, congrArg (upd njn (n - 1)) (by rw [decide_eq_true h44]; rfl)⟩⟩)
    · -- not taken
      refine g_iload_n 11 O dX6_nextState_11 rfl 2 rfl ?_
      refine g_bipush 12 O (v := 43) dX6_nextState_12 (by decide) ?_
      refine g_icmp_ne 14 O 29 dX6_nextState_14 (by decide) (fun h14 => ?_) (fun h14 => ?_)
      · -- taken
        refine g_iconst 29 O (v := 0) dX6_nextState_29 (by decide) ?_
        refine g_istore_n 30 O (lv' := [(3, .int 0), (0, .ref (a 0)), (1, .int p0), (2, .int p1)]) dX6_nextState_30 rfl (by decide) rfl ?_
        refine g_aload_n 31 O dX6_nextState_31 rfl 1 rfl ?_
        refine g_get 32 O (v := .ref (a 13)) inX6 0 rfl rfl 24 (by decide) kf_X6_47 rfl dX6_nextState_32 ?_
        refine g_aload_n 35 O dX6_nextState_35 rfl 1 rfl ?_
        refine g_get 36 O (v := .int ((nI n))) inX6 0 rfl rfl 22 (by decide) kf_X6_77 rfl dX6_nextState_36 ?_
        refine g_iconst 39 O (v := 1) dX6_nextState_39 (by decide) ?_
        refine g_isub 40 O dX6_nextState_40 ?_
        refine g_iload_n 41 O dX6_nextState_41 rfl 3 rfl ?_
        refine g_bipush 42 O (v := 43) dX6_nextState_42 (by decide) ?_
        refine g_icmp_ne 44 O 51 dX6_nextState_44 (by decide) (fun h44 => ?_) (fun h44 => ?_)
        · -- taken
          refine g_iconst 51 O (v := 0) dX6_nextState_51 (by decide) ?_
          refine g_iast 52 O (((mw, msd, mn, mon, mhn, mrd, mtn, mad, mpn), (se, wo, jf, ow, oj, kf, ff, vf, cf, tf, pb), (fat, whl, (nI n), nwd, upd njn ((n - 1)) 0), (rd, so, vl, jg), tko, (sdn, hh_), (ik, kw, kh, kr, kt, kc, ko))) 13 ((n - 1)) rfl (pk_sub (b := 1) (by have := hn1 hst2; omega)) (by omega) (by decide) rfl dX6_nextState_52 ?_
          refine g_iload_n 53 O dX6_nextState_53 rfl 0 rfl ?_
          refine g_if_eq 54 O 61 dX6_nextState_54 (by decide) (fun h54 => ?_) (fun h54 => False.elim (absurd h54 (by decide)))
          refine g_iconst 61 O (v := (-1)) dX6_nextState_61 (by decide) ?_
          exact g_iret 62 O dX6_nextState_62 (by rw [hP0]; exact ⟨_, rfl, _, _, _, rfl, Or.inr (Or.inl ⟨hst2, fun q => q.1.elim h8 h14, rfl, rfl, rfl, congrArg (upd njn (n - 1)) (by rw [decide_eq_false h44]; rfl)⟩)⟩)
        · -- not taken
          refine g_iconst 47 O (v := 1) dX6_nextState_47 (by decide) ?_
          refine g_goto 48 O 52 dX6_nextState_48 (by decide) ?_
          refine g_iast 52 O (((mw, msd, mn, mon, mhn, mrd, mtn, mad, mpn), (se, wo, jf, ow, oj, kf, ff, vf, cf, tf, pb), (fat, whl, (nI n), nwd, upd njn ((n - 1)) 1), (rd, so, vl, jg), tko, (sdn, hh_), (ik, kw, kh, kr, kt, kc, ko))) 13 ((n - 1)) rfl (pk_sub (b := 1) (by have := hn1 hst2; omega)) (by omega) (by decide) rfl dX6_nextState_52 ?_
          refine g_iload_n 53 O dX6_nextState_53 rfl 0 rfl ?_
          refine g_if_eq 54 O 61 dX6_nextState_54 (by decide) (fun h54 => ?_) (fun h54 => False.elim (absurd h54 (by decide)))
          refine g_iconst 61 O (v := (-1)) dX6_nextState_61 (by decide) ?_
          exact g_iret 62 O dX6_nextState_62 (by rw [hP0]; exact ⟨_, rfl, _, _, _, rfl, Or.inr (Or.inl ⟨hst2, fun q => q.1.elim h8 h14, rfl, rfl, rfl, congrArg (upd njn (n - 1)) (by rw [decide_eq_true h44]; rfl)⟩)⟩)
      · -- not taken
        refine g_aload_n 17 O dX6_nextState_17 rfl 0 rfl ?_
        refine g_get 18 O (v := .int ((nI n))) inX6 0 rfl rfl 22 (by decide) kf_X6_77 rfl dX6_nextState_18 ?_
        refine g_iconst 21 O (v := 4) dX6_nextState_21 (by decide) ?_
        refine g_icmp_ge 22 O 29 dX6_nextState_22 (by decide) (fun h22 => ?_) (fun h22 => ?_)
        · -- taken
          refine g_iconst 29 O (v := 0) dX6_nextState_29 (by decide) ?_
          refine g_istore_n 30 O (lv' := [(3, .int 0), (0, .ref (a 0)), (1, .int p0), (2, .int p1)]) dX6_nextState_30 rfl (by decide) rfl ?_
          refine g_aload_n 31 O dX6_nextState_31 rfl 1 rfl ?_
          refine g_get 32 O (v := .ref (a 13)) inX6 0 rfl rfl 24 (by decide) kf_X6_47 rfl dX6_nextState_32 ?_
          refine g_aload_n 35 O dX6_nextState_35 rfl 1 rfl ?_
          refine g_get 36 O (v := .int ((nI n))) inX6 0 rfl rfl 22 (by decide) kf_X6_77 rfl dX6_nextState_36 ?_
          refine g_iconst 39 O (v := 1) dX6_nextState_39 (by decide) ?_
          refine g_isub 40 O dX6_nextState_40 ?_
          refine g_iload_n 41 O dX6_nextState_41 rfl 3 rfl ?_
          refine g_bipush 42 O (v := 43) dX6_nextState_42 (by decide) ?_
          refine g_icmp_ne 44 O 51 dX6_nextState_44 (by decide) (fun h44 => ?_) (fun h44 => ?_)
          · -- taken
            refine g_iconst 51 O (v := 0) dX6_nextState_51 (by decide) ?_
            refine g_iast 52 O (((mw, msd, mn, mon, mhn, mrd, mtn, mad, mpn), (se, wo, jf, ow, oj, kf, ff, vf, cf, tf, pb), (fat, whl, (nI n), nwd, upd njn ((n - 1)) 0), (rd, so, vl, jg), tko, (sdn, hh_), (ik, kw, kh, kr, kt, kc, ko))) 13 ((n - 1)) rfl (pk_sub (b := 1) (by have := hn1 hst2; omega)) (by omega) (by decide) rfl dX6_nextState_52 ?_
            refine g_iload_n 53 O dX6_nextState_53 rfl 0 rfl ?_
            refine g_if_eq 54 O 61 dX6_nextState_54 (by decide) (fun h54 => ?_) (fun h54 => False.elim (absurd h54 (by decide)))
            refine g_iconst 61 O (v := (-1)) dX6_nextState_61 (by decide) ?_
            exact g_iret 62 O dX6_nextState_62 (by rw [hP0]; exact ⟨_, rfl, _, _, _, rfl, Or.inr (Or.inl ⟨hst2, fun q => absurd (ge_of_le (n := 4) (by omega) (by decide) h22) (by have := q.2; omega), rfl, rfl, rfl, congrArg (upd njn (n - 1)) (by rw [decide_eq_false h44]; rfl)⟩)⟩)
          · -- not taken
            refine g_iconst 47 O (v := 1) dX6_nextState_47 (by decide) ?_
            refine g_goto 48 O 52 dX6_nextState_48 (by decide) ?_
            refine g_iast 52 O (((mw, msd, mn, mon, mhn, mrd, mtn, mad, mpn), (se, wo, jf, ow, oj, kf, ff, vf, cf, tf, pb), (fat, whl, (nI n), nwd, upd njn ((n - 1)) 1), (rd, so, vl, jg), tko, (sdn, hh_), (ik, kw, kh, kr, kt, kc, ko))) 13 ((n - 1)) rfl (pk_sub (b := 1) (by have := hn1 hst2; omega)) (by omega) (by decide) rfl dX6_nextState_52 ?_
            refine g_iload_n 53 O dX6_nextState_53 rfl 0 rfl ?_
            refine g_if_eq 54 O 61 dX6_nextState_54 (by decide) (fun h54 => ?_) (fun h54 => False.elim (absurd h54 (by decide)))
            refine g_iconst 61 O (v := (-1)) dX6_nextState_61 (by decide) ?_
            exact g_iret 62 O dX6_nextState_62 (by rw [hP0]; exact ⟨_, rfl, _, _, _, rfl, Or.inr (Or.inl ⟨hst2, fun q => absurd (ge_of_le (n := 4) (by omega) (by decide) h22) (by have := q.2; omega), rfl, rfl, rfl, congrArg (upd njn (n - 1)) (by rw [decide_eq_true h44]; rfl)⟩)⟩)
        · -- not taken
          refine g_iconst 25 O (v := 1) dX6_nextState_25 (by decide) ?_
          refine g_goto 26 O 30 dX6_nextState_26 (by decide) ?_
          refine g_istore_n 30 O (lv' := [(3, .int 1), (0, .ref (a 0)), (1, .int p0), (2, .int p1)]) dX6_nextState_30 rfl (by decide) rfl ?_
          refine g_aload_n 31 O dX6_nextState_31 rfl 1 rfl ?_
          refine g_get 32 O (v := .ref (a 13)) inX6 0 rfl rfl 24 (by decide) kf_X6_47 rfl dX6_nextState_32 ?_
          refine g_aload_n 35 O dX6_nextState_35 rfl 1 rfl ?_
          refine g_get 36 O (v := .int ((nI n))) inX6 0 rfl rfl 22 (by decide) kf_X6_77 rfl dX6_nextState_36 ?_
          refine g_iconst 39 O (v := 1) dX6_nextState_39 (by decide) ?_
          refine g_isub 40 O dX6_nextState_40 ?_
          refine g_iload_n 41 O dX6_nextState_41 rfl 3 rfl ?_
          refine g_bipush 42 O (v := 43) dX6_nextState_42 (by decide) ?_
          refine g_icmp_ne 44 O 51 dX6_nextState_44 (by decide) (fun h44 => ?_) (fun h44 => ?_)
          · -- taken
            refine g_iconst 51 O (v := 0) dX6_nextState_51 (by decide) ?_
            refine g_iast 52 O (((mw, msd, mn, mon, mhn, mrd, mtn, mad, mpn), (se, wo, jf, ow, oj, kf, ff, vf, cf, tf, pb), (fat, whl, (nI n), nwd, upd njn ((n - 1)) 0), (rd, so, vl, jg), tko, (sdn, hh_), (ik, kw, kh, kr, kt, kc, ko))) 13 ((n - 1)) rfl (pk_sub (b := 1) (by have := hn1 hst2; omega)) (by omega) (by decide) rfl dX6_nextState_52 ?_
            refine g_iload_n 53 O dX6_nextState_53 rfl 0 rfl ?_
            refine g_if_eq 54 O 61 dX6_nextState_54 (by decide) (fun h54 => False.elim (absurd h54 (by decide))) (fun h54 => ?_)
            refine g_iconst 57 O (v := 0) dX6_nextState_57 (by decide) ?_
            refine g_goto 58 O 62 dX6_nextState_58 (by decide) ?_
            exact g_iret 62 O dX6_nextState_62 (by rw [hP0]; exact ⟨_, rfl, _, _, _, rfl, Or.inl ⟨hst2, ⟨Or.inr h14, lt_of_nge (n := 4) (by omega) h22⟩, rfl, rfl, rfl, congrArg (upd njn (n - 1)) (by rw [decide_eq_false h44]; rfl)⟩⟩)
          · -- not taken
            refine g_iconst 47 O (v := 1) dX6_nextState_47 (by decide) ?_
            refine g_goto 48 O 52 dX6_nextState_48 (by decide) ?_
            refine g_iast 52 O (((mw, msd, mn, mon, mhn, mrd, mtn, mad, mpn), (se, wo, jf, ow, oj, kf, ff, vf, cf, tf, pb), (fat, whl, (nI n), nwd, upd njn ((n - 1)) 1), (rd, so, vl, jg), tko, (sdn, hh_), (ik, kw, kh, kr, kt, kc, ko))) 13 ((n - 1)) rfl (pk_sub (b := 1) (by have := hn1 hst2; omega)) (by omega) (by decide) rfl dX6_nextState_52 ?_
            refine g_iload_n 53 O dX6_nextState_53 rfl 0 rfl ?_
            refine g_if_eq 54 O 61 dX6_nextState_54 (by decide) (fun h54 => False.elim (absurd h54 (by decide))) (fun h54 => ?_)
            refine g_iconst 57 O (v := 0) dX6_nextState_57 (by decide) ?_
            refine g_goto 58 O 62 dX6_nextState_58 (by decide) ?_
            exact g_iret 62 O dX6_nextState_62 (by rw [hP0]; exact ⟨_, rfl, _, _, _, rfl, Or.inl ⟨hst2, ⟨Or.inr h14, lt_of_nge (n := 4) (by omega) h22⟩, rfl, rfl, rfl, congrArg (upd njn (n - 1)) (by rw [decide_eq_true h44]; rfl)⟩⟩)
