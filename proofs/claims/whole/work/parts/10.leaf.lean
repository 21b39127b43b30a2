set_option maxRecDepth 100000 in
set_option maxHeartbeats 4000000 in
theorem c_X5_isFact (l : Launch) (E : Ev) {T : Type} (w : T → va_W) (σ : T) (p0 : Int32)  : Ctr l yX5_isFact cX5_isFact 1 (some .boolean) 0 0 E (w) [.int p0] σ (fun v s => v = some (.int (if 0 ≤ p0 ∧ p0 < 6 then 1 else 0)) ∧ s = σ) := by
  refine Ctr.of' (by decide +kernel) (Nat.le_of_ble_eq_true rfl) (fun X P0 hP0 O => ?_)
  refine g_sub [0] (lv' := [(0, .int p0)]) rfl ?_
  refine g_iload_n 0 O dX5_isFact_0 rfl 0 rfl ?_
  refine g_if_lt 1 O 14 dX5_isFact_1 (by decide) (fun h1 => ?_) (fun h1 => ?_)
  · -- taken
    refine g_iconst 14 O (v := 0) dX5_isFact_14 (by decide) ?_
    exact g_zret (by first | rfl | decide) 15 O dX5_isFact_15 (by rw [hP0]; exact ⟨by rw [if_neg (fun q => Int32.not_le.mpr h1 q.1)], rfl⟩)
  · -- not taken
    refine g_iload_n 4 O dX5_isFact_4 rfl 0 rfl ?_
    refine g_bipush 5 O (v := 6) dX5_isFact_5 (by decide) ?_
    refine g_icmp_ge 7 O 14 dX5_isFact_7 (by decide) (fun h7 => ?_) (fun h7 => ?_)
    · -- taken
      refine g_iconst 14 O (v := 0) dX5_isFact_14 (by decide) ?_
      exact g_zret (by first | rfl | decide) 15 O dX5_isFact_15 (by rw [hP0]; exact ⟨by rw [if_neg (fun q => Int32.not_lt.mpr h7 q.2)], rfl⟩)
    · -- not taken
      refine g_iconst 10 O (v := 1) dX5_isFact_10 (by decide) ?_
      refine g_goto 11 O 15 dX5_isFact_11 (by decide) ?_
      exact g_zret (by first | rfl | decide) 15 O dX5_isFact_15 (by rw [hP0]; exact ⟨by rw [if_pos (⟨Int32.not_lt.mp h1, Int32.not_le.mp h7⟩)], rfl⟩)

set_option maxRecDepth 100000 in
set_option maxHeartbeats 4000000 in
theorem c_X5_isWorld (l : Launch) (E : Ev) {T : Type} (w : T → va_W) (σ : T) (p0 : Int32)  : Ctr l yX5_isWorld cX5_isWorld 1 (some .boolean) 0 0 E (w) [.int p0] σ (fun v s => v = some (.int (if 0 ≤ p0 ∧ p0 < 64 then 1 else 0)) ∧ s = σ) := by
  refine Ctr.of' (by decide +kernel) (Nat.le_of_ble_eq_true rfl) (fun X P0 hP0 O => ?_)
  refine g_sub [0] (lv' := [(0, .int p0)]) rfl ?_
  refine g_iload_n 0 O dX5_isWorld_0 rfl 0 rfl ?_
  refine g_if_lt 1 O 14 dX5_isWorld_1 (by decide) (fun h1 => ?_) (fun h1 => ?_)
  · -- taken
    refine g_iconst 14 O (v := 0) dX5_isWorld_14 (by decide) ?_
    exact g_zret (by first | rfl | decide) 15 O dX5_isWorld_15 (by rw [hP0]; exact ⟨by rw [if_neg (fun q => Int32.not_le.mpr h1 q.1)], rfl⟩)
  · -- not taken
    refine g_iload_n 4 O dX5_isWorld_4 rfl 0 rfl ?_
    refine g_bipush 5 O (v := 64) dX5_isWorld_5 (by decide) ?_
    refine g_icmp_ge 7 O 14 dX5_isWorld_7 (by decide) (fun h7 => ?_) (fun h7 => ?_)
    · -- taken
      refine g_iconst 14 O (v := 0) dX5_isWorld_14 (by decide) ?_
      exact g_zret (by first | rfl | decide) 15 O dX5_isWorld_15 (by rw [hP0]; exact ⟨by rw [if_neg (fun q => Int32.not_lt.mpr h7 q.2)], rfl⟩)
    · -- not taken
      refine g_iconst 10 O (v := 1) dX5_isWorld_10 (by decide) ?_
      refine g_goto 11 O 15 dX5_isWorld_11 (by decide) ?_
      exact g_zret (by first | rfl | decide) 15 O dX5_isWorld_15 (by rw [hP0]; exact ⟨by rw [if_pos (⟨Int32.not_lt.mp h1, Int32.not_le.mp h7⟩)], rfl⟩)

set_option maxRecDepth 100000 in
set_option maxHeartbeats 4000000 in
theorem c_X5_isKind (l : Launch) (E : Ev) {T : Type} (w : T → va_W) (σ : T) (p0 : Int32)  : Ctr l yX5_isKind cX5_isKind 1 (some .boolean) 0 0 E (w) [.int p0] σ (fun v s => v = some (.int (if 0 ≤ p0 ∧ p0 ≤ 4 then 1 else 0)) ∧ s = σ) := by
  refine Ctr.of' (by decide +kernel) (Nat.le_of_ble_eq_true rfl) (fun X P0 hP0 O => ?_)
  refine g_sub [0] (lv' := [(0, .int p0)]) rfl ?_
  refine g_iload_n 0 O dX5_isKind_0 rfl 0 rfl ?_
  refine g_if_lt 1 O 13 dX5_isKind_1 (by decide) (fun h1 => ?_) (fun h1 => ?_)
  · -- taken
    refine g_iconst 13 O (v := 0) dX5_isKind_13 (by decide) ?_
    exact g_zret (by first | rfl | decide) 14 O dX5_isKind_14 (by rw [hP0]; exact ⟨by rw [if_neg (fun q => Int32.not_le.mpr h1 q.1)], rfl⟩)
  · -- not taken
    refine g_iload_n 4 O dX5_isKind_4 rfl 0 rfl ?_
    refine g_iconst 5 O (v := 4) dX5_isKind_5 (by decide) ?_
    refine g_icmp_gt 6 O 13 dX5_isKind_6 (by decide) (fun h6 => ?_) (fun h6 => ?_)
    · -- taken
      refine g_iconst 13 O (v := 0) dX5_isKind_13 (by decide) ?_
      exact g_zret (by first | rfl | decide) 14 O dX5_isKind_14 (by rw [hP0]; exact ⟨by rw [if_neg (fun q => Int32.not_le.mpr h6 q.2)], rfl⟩)
    · -- not taken
      refine g_iconst 9 O (v := 1) dX5_isKind_9 (by decide) ?_
      refine g_goto 10 O 14 dX5_isKind_10 (by decide) ?_
      exact g_zret (by first | rfl | decide) 14 O dX5_isKind_14 (by rw [hP0]; exact ⟨by rw [if_pos (⟨Int32.not_lt.mp h1, Int32.not_lt.mp h6⟩)], rfl⟩)

set_option maxRecDepth 100000 in
set_option maxHeartbeats 4000000 in
theorem c_X2_isWordLetter (l : Launch) (E : Ev) {T : Type} (w : T → va_W) (σ : T) (p0 : Int32)  : Ctr l yX2_isWordLetter cX2_isWordLetter 1 (some .boolean) 0 0 E (w) [.int p0] σ (fun v s => v = some (.int (if 97 ≤ p0 ∧ p0 ≤ 102 then 1 else 0)) ∧ s = σ) := by
  refine Ctr.of' (by decide +kernel) (Nat.le_of_ble_eq_true rfl) (fun X P0 hP0 O => ?_)
  refine g_sub [0] (lv' := [(0, .int p0)]) rfl ?_
  refine g_iload_n 0 O dX2_isWordLetter_0 rfl 0 rfl ?_
  refine g_bipush 1 O (v := 97) dX2_isWordLetter_1 (by decide) ?_
  refine g_icmp_lt 3 O 16 dX2_isWordLetter_3 (by decide) (fun h3 => ?_) (fun h3 => ?_)
  · -- taken
    refine g_iconst 16 O (v := 0) dX2_isWordLetter_16 (by decide) ?_
    exact g_zret (by first | rfl | decide) 17 O dX2_isWordLetter_17 (by rw [hP0]; exact ⟨by rw [if_neg (fun q => Int32.not_le.mpr h3 q.1)], rfl⟩)
  · -- not taken
    refine g_iload_n 6 O dX2_isWordLetter_6 rfl 0 rfl ?_
    refine g_bipush 7 O (v := 102) dX2_isWordLetter_7 (by decide) ?_
    refine g_icmp_gt 9 O 16 dX2_isWordLetter_9 (by decide) (fun h9 => ?_) (fun h9 => ?_)
    · -- taken
      refine g_iconst 16 O (v := 0) dX2_isWordLetter_16 (by decide) ?_
      exact g_zret (by first | rfl | decide) 17 O dX2_isWordLetter_17 (by rw [hP0]; exact ⟨by rw [if_neg (fun q => Int32.not_le.mpr h9 q.2)], rfl⟩)
    · -- not taken
      refine g_iconst 12 O (v := 1) dX2_isWordLetter_12 (by decide) ?_
      refine g_goto 13 O 17 dX2_isWordLetter_13 (by decide) ?_
      exact g_zret (by first | rfl | decide) 17 O dX2_isWordLetter_17 (by rw [hP0]; exact ⟨by rw [if_pos (⟨Int32.not_lt.mp h3, Int32.not_lt.mp h9⟩)], rfl⟩)

set_option maxRecDepth 100000 in
set_option maxHeartbeats 4000000 in
theorem c_X6_within (l : Launch) (E : Ev) {T : Type} (w : T → va_W) (σ : T) (p0 p1 p2 : Int32)  : Ctr l yX6_within cX6_within 3 (some .boolean) 0 0 E (w) [.int p0, .int p1, .int p2] σ (fun v s => v = some (.int (if p1 ≤ p0 ∧ p0 ≤ p2 then 1 else 0)) ∧ s = σ) := by
  refine Ctr.of' (by decide +kernel) (Nat.le_of_ble_eq_true rfl) (fun X P0 hP0 O => ?_)
  refine g_sub [0, 1, 2] (lv' := [(0, .int p0), (1, .int p1), (2, .int p2)]) rfl ?_
  refine g_iload_n 0 O dX6_within_0 rfl 0 rfl ?_
  refine g_iload_n 1 O dX6_within_1 rfl 1 rfl ?_
  refine g_icmp_lt 2 O 14 dX6_within_2 (by decide) (fun h2 => ?_) (fun h2 => ?_)
  · -- taken
    refine g_iconst 14 O (v := 0) dX6_within_14 (by decide) ?_
    exact g_zret (by first | rfl | decide) 15 O dX6_within_15 (by rw [hP0]; exact ⟨by rw [if_neg (fun q => Int32.not_le.mpr h2 q.1)], rfl⟩)
  · -- not taken
    refine g_iload_n 5 O dX6_within_5 rfl 0 rfl ?_
    refine g_iload_n 6 O dX6_within_6 rfl 2 rfl ?_
    refine g_icmp_gt 7 O 14 dX6_within_7 (by decide) (fun h7 => ?_) (fun h7 => ?_)
    · -- taken
      refine g_iconst 14 O (v := 0) dX6_within_14 (by decide) ?_
      exact g_zret (by first | rfl | decide) 15 O dX6_within_15 (by rw [hP0]; exact ⟨by rw [if_neg (fun q => Int32.not_le.mpr h7 q.2)], rfl⟩)
    · -- not taken
      refine g_iconst 10 O (v := 1) dX6_within_10 (by decide) ?_
      refine g_goto 11 O 15 dX6_within_11 (by decide) ?_
      exact g_zret (by first | rfl | decide) 15 O dX6_within_15 (by rw [hP0]; exact ⟨by rw [if_pos (⟨Int32.not_lt.mp h2, Int32.not_lt.mp h7⟩)], rfl⟩)

set_option maxRecDepth 100000 in
set_option maxHeartbeats 4000000 in
theorem c_X5_isValue (l : Launch) (E : Ev) {T : Type} (w : T → va_W) (σ : T) (p0 : Int32)  : Ctr l yX5_isValue cX5_isValue 1 (some .boolean) 0 0 E (w) [.int p0] σ (fun v s => v = some (.int (if p0 = 0 ∨ p0 = 1 then 1 else 0)) ∧ s = σ) := by
  refine Ctr.of' (by decide +kernel) (Nat.le_of_ble_eq_true rfl) (fun X P0 hP0 O => ?_)
  refine g_sub [0] (lv' := [(0, .int p0)]) rfl ?_
  refine g_iload_n 0 O dX5_isValue_0 rfl 0 rfl ?_
  refine g_if_eq 1 O 9 dX5_isValue_1 (by decide) (fun h1 => ?_) (fun h1 => ?_)
  · -- taken
    refine g_iconst 9 O (v := 1) dX5_isValue_9 (by decide) ?_
    refine g_goto 10 O 14 dX5_isValue_10 (by decide) ?_
    exact g_zret (by first | rfl | decide) 14 O dX5_isValue_14 (by rw [hP0]; exact ⟨by rw [if_pos (Or.inl h1)], rfl⟩)
  · -- not taken
    refine g_iload_n 4 O dX5_isValue_4 rfl 0 rfl ?_
    refine g_iconst 5 O (v := 1) dX5_isValue_5 (by decide) ?_
    refine g_icmp_ne 6 O 13 dX5_isValue_6 (by decide) (fun h6 => ?_) (fun h6 => ?_)
    · -- taken
      refine g_iconst 13 O (v := 0) dX5_isValue_13 (by decide) ?_
      exact g_zret (by first | rfl | decide) 14 O dX5_isValue_14 (by rw [hP0]; exact ⟨by rw [if_neg (fun q => q.elim h1 h6)], rfl⟩)
    · -- not taken
      refine g_iconst 9 O (v := 1) dX5_isValue_9 (by decide) ?_
      refine g_goto 10 O 14 dX5_isValue_10 (by decide) ?_
      exact g_zret (by first | rfl | decide) 14 O dX5_isValue_14 (by rw [hP0]; exact ⟨by rw [if_pos (Or.inr h6)], rfl⟩)

set_option maxRecDepth 100000 in
set_option maxHeartbeats 4000000 in
theorem c_X2_isJoining (l : Launch) (E : Ev) {T : Type} (w : T → va_W) (σ : T) (p0 : Int32)  : Ctr l yX2_isJoining cX2_isJoining 1 (some .boolean) 0 0 E (w) [.int p0] σ (fun v s => v = some (.int (if p0 = 38 ∨ p0 = 43 then 1 else 0)) ∧ s = σ) := by
  refine Ctr.of' (by decide +kernel) (Nat.le_of_ble_eq_true rfl) (fun X P0 hP0 O => ?_)
  refine g_sub [0] (lv' := [(0, .int p0)]) rfl ?_
  refine g_iload_n 0 O dX2_isJoining_0 rfl 0 rfl ?_
  refine g_bipush 1 O (v := 38) dX2_isJoining_1 (by decide) ?_
  refine g_icmp_eq 3 O 12 dX2_isJoining_3 (by decide) (fun h3 => ?_) (fun h3 => ?_)
  · -- taken
    refine g_iconst 12 O (v := 1) dX2_isJoining_12 (by decide) ?_
    refine g_goto 13 O 17 dX2_isJoining_13 (by decide) ?_
    exact g_zret (by first | rfl | decide) 17 O dX2_isJoining_17 (by rw [hP0]; exact ⟨by rw [if_pos (Or.inl h3)], rfl⟩)
  · -- not taken
    refine g_iload_n 6 O dX2_isJoining_6 rfl 0 rfl ?_
    refine g_bipush 7 O (v := 43) dX2_isJoining_7 (by decide) ?_
    refine g_icmp_ne 9 O 16 dX2_isJoining_9 (by decide) (fun h9 => ?_) (fun h9 => ?_)
    · -- taken
      refine g_iconst 16 O (v := 0) dX2_isJoining_16 (by decide) ?_
      exact g_zret (by first | rfl | decide) 17 O dX2_isJoining_17 (by rw [hP0]; exact ⟨by rw [if_neg (fun q => q.elim h3 h9)], rfl⟩)
    · -- not taken
      refine g_iconst 12 O (v := 1) dX2_isJoining_12 (by decide) ?_
      refine g_goto 13 O 17 dX2_isJoining_13 (by decide) ?_
      exact g_zret (by first | rfl | decide) 17 O dX2_isJoining_17 (by rw [hP0]; exact ⟨by rw [if_pos (Or.inr h9)], rfl⟩)

set_option maxRecDepth 100000 in
set_option maxHeartbeats 4000000 in
theorem c_X5_isOfKind (l : Launch) (E : Ev) {T : Type} (w : T → va_W) (σ : T) (p0 p1 : Int32)  : Ctr l yX5_isOfKind cX5_isOfKind 2 (some .boolean) 0 0 E (w) [.int p0, .int p1] σ (fun v s => v = some (.int (if p1 = 0 ∨ p1 = p0 ∨ (p1 = 3 ∧ p0 = 4) then 1 else 0)) ∧ s = σ) := by
  refine Ctr.of' (by decide +kernel) (Nat.le_of_ble_eq_true rfl) (fun X P0 hP0 O => ?_)
  refine g_sub [0, 1] (lv' := [(0, .int p0), (1, .int p1)]) rfl ?_
  refine g_iload_n 0 O dX5_isOfKind_0 rfl 1 rfl ?_
  refine g_if_eq 1 O 19 dX5_isOfKind_1 (by decide) (fun h1 => ?_) (fun h1 => ?_)
  · -- taken
    refine g_iconst 19 O (v := 1) dX5_isOfKind_19 (by decide) ?_
    refine g_goto 20 O 24 dX5_isOfKind_20 (by decide) ?_
    exact g_zret (by first | rfl | decide) 24 O dX5_isOfKind_24 (by rw [hP0]; exact ⟨by rw [if_pos (Or.inl h1)], rfl⟩)
  · -- not taken
    refine g_iload_n 4 O dX5_isOfKind_4 rfl 1 rfl ?_
    refine g_iload_n 5 O dX5_isOfKind_5 rfl 0 rfl ?_
    refine g_icmp_eq 6 O 19 dX5_isOfKind_6 (by decide) (fun h6 => ?_) (fun h6 => ?_)
    · -- taken
      refine g_iconst 19 O (v := 1) dX5_isOfKind_19 (by decide) ?_
      refine g_goto 20 O 24 dX5_isOfKind_20 (by decide) ?_
      exact g_zret (by first | rfl | decide) 24 O dX5_isOfKind_24 (by rw [hP0]; exact ⟨by rw [if_pos (Or.inr (Or.inl h6))], rfl⟩)
    · -- not taken
      refine g_iload_n 9 O dX5_isOfKind_9 rfl 1 rfl ?_
      refine g_iconst 10 O (v := 3) dX5_isOfKind_10 (by decide) ?_
      refine g_icmp_ne 11 O 23 dX5_isOfKind_11 (by decide) (fun h11 => ?_) (fun h11 => ?_)
      · -- taken
        refine g_iconst 23 O (v := 0) dX5_isOfKind_23 (by decide) ?_
        exact g_zret (by first | rfl | decide) 24 O dX5_isOfKind_24 (by rw [hP0]; exact ⟨by rw [if_neg (fun q => q.elim h1 (fun q => q.elim h6 (fun q => h11 q.1)))], rfl⟩)
      · -- not taken
        refine g_iload_n 14 O dX5_isOfKind_14 rfl 0 rfl ?_
        refine g_iconst 15 O (v := 4) dX5_isOfKind_15 (by decide) ?_
        refine g_icmp_ne 16 O 23 dX5_isOfKind_16 (by decide) (fun h16 => ?_) (fun h16 => ?_)
        · -- taken
          refine g_iconst 23 O (v := 0) dX5_isOfKind_23 (by decide) ?_
          exact g_zret (by first | rfl | decide) 24 O dX5_isOfKind_24 (by rw [hP0]; exact ⟨by rw [if_neg (fun q => q.elim h1 (fun q => q.elim h6 (fun q => h16 q.2)))], rfl⟩)
        · -- not taken
          refine g_iconst 19 O (v := 1) dX5_isOfKind_19 (by decide) ?_
          refine g_goto 20 O 24 dX5_isOfKind_20 (by decide) ?_
          exact g_zret (by first | rfl | decide) 24 O dX5_isOfKind_24 (by rw [hP0]; exact ⟨by rw [if_pos (Or.inr (Or.inr ⟨h11, h16⟩))], rfl⟩)

set_option maxRecDepth 100000 in
set_option maxHeartbeats 4000000 in
theorem c_X5_bitOf (l : Launch) (E : Ev) {T : Type} (w : T → va_W) (σ : T) (p0 : Int64) (p1 : Int32)  : Ctr l yX5_bitOf cX5_bitOf 3 (some .int) 0 0 E (w) [.long p0, .int p1] σ (fun v s => v = some (.int (((p0.toUInt64 >>> (p1.toInt64.toUInt64 &&& Int64.toUInt64 63)).toInt64 &&& 1).toInt32)) ∧ s = σ) := by
  refine Ctr.of' (by decide +kernel) (Nat.le_of_ble_eq_true rfl) (fun X P0 hP0 O => ?_)
  refine g_sub [0, 1] (lv' := [(0, .long p0), (2, .int p1)]) rfl ?_
  refine g_lload_n 0 O dX5_bitOf_0 rfl 0 rfl ?_
  refine g_iload_n 1 O dX5_bitOf_1 rfl 1 rfl ?_
  refine g_lushr 2 O dX5_bitOf_2 ?_
  refine g_lconst 3 O (v := 1) dX5_bitOf_3 (by decide) ?_
  refine g_land 4 O dX5_bitOf_4 ?_
  refine g_l2i 5 O dX5_bitOf_5 ?_
  exact g_iret 6 O dX5_bitOf_6 (by rw [hP0]; exact ⟨rfl, rfl⟩)

set_option maxRecDepth 100000 in
set_option maxHeartbeats 4000000 in
theorem c_X5_withFact (l : Launch) (E : Ev) {T : Type} (w : T → va_W) (σ : T) (p0 p1 p2 : Int32)  : Ctr l yX5_withFact cX5_withFact 3 (some .int) 0 0 E (w) [.int p0, .int p1, .int p2] σ (fun v s => v = some (.int (p0 &&& ((1 <<< (p1 &&& 31)) ^^^ (-1)) ||| p2 <<< (p1 &&& 31))) ∧ s = σ) := by
  refine Ctr.of' (by decide +kernel) (Nat.le_of_ble_eq_true rfl) (fun X P0 hP0 O => ?_)
  refine g_sub [0, 1, 2] (lv' := [(0, .int p0), (1, .int p1), (2, .int p2)]) rfl ?_
  refine g_iload_n 0 O dX5_withFact_0 rfl 0 rfl ?_
  refine g_iconst 1 O (v := 1) dX5_withFact_1 (by decide) ?_
  refine g_iload_n 2 O dX5_withFact_2 rfl 1 rfl ?_
  refine g_ishl 3 O dX5_withFact_3 ?_
  refine g_iconst 4 O (v := (-1)) dX5_withFact_4 (by decide) ?_
  refine g_ixor 5 O dX5_withFact_5 ?_
  refine g_iand 6 O dX5_withFact_6 ?_
  refine g_iload_n 7 O dX5_withFact_7 rfl 2 rfl ?_
  refine g_iload_n 8 O dX5_withFact_8 rfl 1 rfl ?_
  refine g_ishl 9 O dX5_withFact_9 ?_
  refine g_ior 10 O dX5_withFact_10 ?_
  exact g_iret 11 O dX5_withFact_11 (by rw [hP0]; exact ⟨rfl, rfl⟩)

set_option maxRecDepth 100000 in
set_option maxHeartbeats 4000000 in
theorem c_X5_worldsOfFact (l : Launch) (E : Ev) {T : Type} (w : T → va_W) (σ : T) (p0 : Int32) (j : Nat) (hp : p0 = nI j) (hj : j < 6) : Ctr l yX5_worldsOfFact cX5_worldsOfFact 1 (some .long) 0 0 E (w) [.int p0] σ (fun v s => v = some (.long (Wf j)) ∧ s = σ) := by
  refine Ctr.of' (by decide +kernel) (Nat.le_of_ble_eq_true rfl) (fun X P0 hP0 O => ?_)
  refine g_sub [0] (lv' := [(0, .int p0)]) rfl ?_
  refine g_iload_n 0 O dX5_worldsOfFact_0 rfl 0 rfl ?_
  refine g_if_lt 1 O 20 dX5_worldsOfFact_1 (by decide) (fun h1 => False.elim (absurd h1 (by rw [hp]; exact nI_pos (by omega)))) (fun h1 => ?_)
  refine g_iload_n 4 O dX5_worldsOfFact_4 rfl 0 rfl ?_
  refine g_gets 5 O dX5_worldsOfFact_5 ?_
  refine g_tlen 8 O dX5_worldsOfFact_8 ?_
  refine g_icmp_ge 9 O 20 dX5_worldsOfFact_9 (by decide) (fun h9 => False.elim (absurd h9 (by rw [hp]; exact nI_ge hj (by decide)))) (fun h9 => ?_)
  refine g_gets 12 O dX5_worldsOfFact_12 ?_
  refine g_iload_n 15 O dX5_worldsOfFact_15 rfl 0 rfl ?_
  refine g_tl 16 O j (hp) (hj) dX5_worldsOfFact_16 ?_
  refine g_goto 17 O 21 dX5_worldsOfFact_17 (by decide) ?_
  exact g_lret 21 O dX5_worldsOfFact_21 (by rw [hP0]; exact ⟨rfl, rfl⟩)

set_option maxRecDepth 100000 in
set_option maxHeartbeats 4000000 in
theorem c_X5_nextSeed (l : Launch) (E : Ev) {T : Type} (w : T → va_W) (σ : T) (p0 : Int32)  : Ctr l yX5_nextSeed cX5_nextSeed 1 (some .int) 0 0 E (w) [.int p0] σ (fun v s => v = some (.int (((1103515245 * p0.toInt64 + 12345) &&& 2147483647).toInt32)) ∧ s = σ) := by
  refine Ctr.of' (by decide +kernel) (Nat.le_of_ble_eq_true rfl) (fun X P0 hP0 O => ?_)
  refine g_sub [0] (lv' := [(0, .int p0)]) rfl ?_
  refine g_ldc2 0 O (v := 1103515245) dX5_nextSeed_0 kk_X5_325 ?_
  refine g_iload_n 3 O dX5_nextSeed_3 rfl 0 rfl ?_
  refine g_i2l 4 O dX5_nextSeed_4 ?_
  refine g_lmul 5 O dX5_nextSeed_5 ?_
  refine g_ldc2 6 O (v := 12345) dX5_nextSeed_6 kk_X5_327 ?_
  refine g_ladd 9 O dX5_nextSeed_9 ?_
  refine g_ldc2 10 O (v := 2147483647) dX5_nextSeed_10 kk_X5_329 ?_
  refine g_land 13 O dX5_nextSeed_13 ?_
  refine g_l2i 14 O dX5_nextSeed_14 ?_
  exact g_iret 15 O dX5_nextSeed_15 (by rw [hP0]; exact ⟨rfl, rfl⟩)

set_option maxRecDepth 100000 in
set_option maxHeartbeats 4000000 in
theorem c_X5_drawOf (l : Launch) (E : Ev) {T : Type} (w : T → va_W) (σ : T) (p0 p1 : Int32) (h0 : ¬ p1 ≤ 0) : Ctr l yX5_drawOf cX5_drawOf 2 (some .int) 0 0 E (w) [.int p0, .int p1] σ (fun v s => v = some (.int (p0 / 65536 - p0 / 65536 / p1 * p1)) ∧ s = σ) := by
  refine Ctr.of' (by decide +kernel) (Nat.le_of_ble_eq_true rfl) (fun X P0 hP0 O => ?_)
  refine g_sub [0, 1] (lv' := [(0, .int p0), (1, .int p1)]) rfl ?_
  refine g_iload_n 0 O dX5_drawOf_0 rfl 1 rfl ?_
  refine g_if_le 1 O 14 dX5_drawOf_1 (by decide) (fun h1 => False.elim (h0 h1)) (fun h1 => ?_)
  refine g_iload_n 4 O dX5_drawOf_4 rfl 0 rfl ?_
  refine g_ldcw 5 O (v := 65536) dX5_drawOf_5 kk_X5_331 ?_
  refine g_idiv 8 O dX5_drawOf_8 (by decide) ?_
  refine g_iload_n 9 O dX5_drawOf_9 rfl 1 rfl ?_
  refine g_irem 10 O dX5_drawOf_10 (fun e => h0 (by rw [e]; decide)) ?_
  refine g_goto 11 O 15 dX5_drawOf_11 (by decide) ?_
  exact g_iret 15 O dX5_drawOf_15 (by rw [hP0]; exact ⟨rfl, rfl⟩)

set_option maxRecDepth 100000 in
set_option maxHeartbeats 4000000 in
theorem c_X5_mixed (l : Launch) (E : Ev) {T : Type} (w : T → va_W) (σ : T) (p0 p1 : Int64)  : Ctr l yX5_mixed cX5_mixed 4 (some .long) 0 0 E (w) [.long p0, .long p1] σ (fun v s => v = some (.long (31 * p0 + p1)) ∧ s = σ) := by
  refine Ctr.of' (by decide +kernel) (Nat.le_of_ble_eq_true rfl) (fun X P0 hP0 O => ?_)
  refine g_sub [0, 1] (lv' := [(0, .long p0), (2, .long p1)]) rfl ?_
  refine g_ldc2 0 O (v := 31) dX5_mixed_0 kk_X5_267 ?_
  refine g_lload_n 3 O dX5_mixed_3 rfl 0 rfl ?_
  refine g_lmul 4 O dX5_mixed_4 ?_
  refine g_lload_n 5 O dX5_mixed_5 rfl 1 rfl ?_
  refine g_ladd 6 O dX5_mixed_6 ?_
  exact g_lret 7 O dX5_mixed_7 (by rw [hP0]; exact ⟨rfl, rfl⟩)

set_option maxRecDepth 100000 in
set_option maxHeartbeats 4000000 in
theorem c_X3_joined (l : Launch) (E : Ev) {T : Type} (w : T → va_W) (σ : T) (p0 p1 : Int32) (p2 p3 : Int64)  : Ctr l yX3_joined cX3_joined 6 (some .long) 0 0 E (w) [.int p0, .int p1, .long p2, .long p3] σ (fun v s => v = some (.long (if p0 &&& (1 <<< (p1 &&& 31)) = 0 then p2 &&& p3 else p2 ||| p3)) ∧ s = σ) := by
  refine Ctr.of' (by decide +kernel) (Nat.le_of_ble_eq_true rfl) (fun X P0 hP0 O => ?_)
  refine g_sub [0, 1, 2, 3] (lv' := [(0, .int p0), (1, .int p1), (2, .long p2), (4, .long p3)]) rfl ?_
  refine g_iload_n 0 O dX3_joined_0 rfl 0 rfl ?_
  refine g_iconst 1 O (v := 1) dX3_joined_1 (by decide) ?_
  refine g_iload_n 2 O dX3_joined_2 rfl 1 rfl ?_
  refine g_ishl 3 O dX3_joined_3 ?_
  refine g_iand 4 O dX3_joined_4 ?_
  refine g_if_eq 5 O 15 dX3_joined_5 (by decide) (fun h5 => ?_) (fun h5 => ?_)
  · -- taken
    refine g_lload_n 15 O dX3_joined_15 rfl 2 rfl ?_
    refine g_lload 16 O dX3_joined_16 3 rfl ?_
    refine g_land 18 O dX3_joined_18 ?_
    exact g_lret 19 O dX3_joined_19 (by rw [hP0]; exact ⟨by rw [if_pos h5], rfl⟩)
  · -- not taken
    refine g_lload_n 8 O dX3_joined_8 rfl 2 rfl ?_
    refine g_lload 9 O dX3_joined_9 3 rfl ?_
    refine g_lor 11 O dX3_joined_11 ?_
    refine g_goto 12 O 19 dX3_joined_12 (by decide) ?_
    exact g_lret 19 O dX3_joined_19 (by rw [hP0]; exact ⟨by rw [if_neg h5], rfl⟩)

set_option maxRecDepth 100000 in
set_option maxHeartbeats 4000000 in
theorem c_X3_truth (l : Launch) (E : Ev) (a : Nat → Nat) (R : va_W) (wd rd wi na : Int32) (so : Int64) (lt ng pl : Nat → Int32) (t1 t2 tr : Nat → Int64) (p0 : Int32) (N k : Nat) (hrd : rd = nI N) (hN : N ≤ 640) (hp : p0 = nI k) (hk : k < N) : Ctr l yX3_truth cX3_truth 2 (some .long) 0 0 E (fun s => wS E a s ++ R) [.ref (a 0), .int p0] (((wd, rd, wi, na, so), lt, ng, pl, t1, t2, tr)) (fun v s => v = some (.long (tr k)) ∧ s = ((wd, rd, wi, na, so), lt, ng, pl, t1, t2, tr)) := by
  refine Ctr.of' (by decide +kernel) (Nat.le_of_ble_eq_true rfl) (fun X P0 hP0 O => ?_)
  refine g_sub [0, 1] (lv' := [(0, .ref (a 0)), (1, .int p0)]) rfl ?_
  refine g_iload_n 0 O dX3_truth_0 rfl 1 rfl ?_
  refine g_if_lt 1 O 30 dX3_truth_1 (by decide) (fun h1 => False.elim (absurd h1 (by rw [hp]; exact nI_pos (by omega)))) (fun h1 => ?_)
  refine g_iload_n 4 O dX3_truth_4 rfl 1 rfl ?_
  refine g_aload_n 5 O dX3_truth_5 rfl 0 rfl ?_
  refine g_get 6 O (v := .int rd) inX3 0 rfl rfl 7 (by decide) kf_X3_36 rfl dX3_truth_6 ?_
  refine g_icmp_ge 9 O 30 dX3_truth_9 (by decide) (fun h9 => False.elim (absurd h9 (by rw [hp, hrd]; exact nI_ge hk (by omega)))) (fun h9 => ?_)
  refine g_iload_n 12 O dX3_truth_12 rfl 1 rfl ?_
  refine g_aload_n 13 O dX3_truth_13 rfl 0 rfl ?_
  refine g_get 14 O (v := .ref (a 6)) inX3 0 rfl rfl 5 (by decide) kf_X3_29 rfl dX3_truth_14 ?_
  refine g_alen 17 O (v := 640) 6 2 rfl rfl rfl dX3_truth_17 ?_
  refine g_icmp_ge 18 O 30 dX3_truth_18 (by decide) (fun h18 => False.elim (absurd h18 (by rw [hp]; exact nI_ge (b := 640) (by omega) (by decide)))) (fun h18 => ?_)
  refine g_aload_n 21 O dX3_truth_21 rfl 0 rfl ?_
  refine g_get 22 O (v := .ref (a 6)) inX3 0 rfl rfl 5 (by decide) kf_X3_29 rfl dX3_truth_22 ?_
  refine g_iload_n 25 O dX3_truth_25 rfl 1 rfl ?_
  refine g_lald 26 O 6 k rfl (hp) (by omega) (by decide) dX3_truth_26 ?_
  refine g_goto 27 O 31 dX3_truth_27 (by decide) ?_
  exact g_lret 31 O dX3_truth_31 (by rw [hP0]; exact ⟨rfl, rfl⟩)
