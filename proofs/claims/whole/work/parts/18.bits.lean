/-! 18: bits of longs (family wb_ pasted from kit/laws/BITS.to-paste), digits, the count of bits -/
/-! ===== lN n to 2^64: shifts, and, or, masks, one bit ===== -/
theorem wb_tb (n : Nat) : (lN n).toBitVec = BitVec.ofNat 64 n := rfl
theorem wb_inj {a b : Int64} (h : a.toBitVec = b.toBitVec) : a = b := Int64.toBitVec_inj.mp h
theorem wb_tn {n : Nat} (h : n < 2 ^ 64) : (lN n).toBitVec.toNat = n := by rw [wb_tb, BitVec.toNat_ofNat, Nat.mod_eq_of_lt h]
theorem wb_of (x : Int64) : ∃ n, n < 2 ^ 64 ∧ x = lN n := ⟨x.toBitVec.toNat, x.toBitVec.isLt, wb_inj (by rw [wb_tb]; simp)⟩
theorem wb_of32 (x : Int32) : ∃ n, n < 2 ^ 32 ∧ x = nI n := ⟨x.toBitVec.toNat, x.toBitVec.isLt, Int32.toBitVec_inj.mp (by show _ = BitVec.ofNat 32 _; simp)⟩
theorem wb_c : ∀ k, k < 64 → ((nI k).toInt64 &&& 63) = lN k := by decide +kernel
theorem wb_cu : ∀ k, k < 64 → ((nI k).toInt64.toUInt64 &&& Int64.toUInt64 63) = UInt64.ofNat k := by decide +kernel
theorem wb_sm : ∀ k, k < 64 → (BitVec.ofNat 64 k).smod 64 = BitVec.ofNat 64 k := by decide +kernel
theorem wb_pw {a b : Nat} (h : a ≤ b) : 2 ^ b = 2 ^ a * 2 ^ (b - a) := by rw [← Nat.pow_add]; congr 1; omega
theorem wb_lt2 {a b : Nat} (h : a < b) : 2 ^ a < 2 ^ b := Nat.pow_lt_pow_right (by decide) h
theorem wb_mod (n : Nat) : lN n = lN (n % 2 ^ 64) := wb_inj (by rw [wb_tb, wb_tb]; apply BitVec.eq_of_toNat_eq; rw [BitVec.toNat_ofNat, BitVec.toNat_ofNat, Nat.mod_mod])
theorem wb_shr {n k : Nat} (hn : n < 2 ^ 64) (hk : k < 64) : ((lN n).toUInt64 >>> ((nI k).toInt64.toUInt64 &&& Int64.toUInt64 63)).toInt64 = lN (n / 2 ^ k) := by
  rw [wb_cu k hk]
  apply wb_inj
  apply BitVec.eq_of_toNat_eq
  show ((lN n).toUInt64 >>> UInt64.ofNat k).toNat = (BitVec.ofNat 64 _).toNat
  have h1 : (UInt64.ofNat k).toNat = k := by
    show (BitVec.ofNat 64 k).toNat = k
    rw [BitVec.toNat_ofNat, Nat.mod_eq_of_lt (by omega)]
  have h2 : (lN n).toUInt64.toNat = n := wb_tn hn
  rw [UInt64.toNat_shiftRight, h1, h2, Nat.mod_eq_of_lt hk, Nat.shiftRight_eq_div_pow, BitVec.toNat_ofNat, Nat.mod_eq_of_lt (Nat.lt_of_le_of_lt (Nat.div_le_self _ _) hn)]
theorem wb_shl (n : Nat) {k : Nat} (hk : k < 64) : lN n <<< ((nI k).toInt64 &&& 63) = lN (n * 2 ^ k) := by
  rw [wb_c k hk]
  apply wb_inj
  rw [Int64.toBitVec_shiftLeft, wb_tb, wb_tb, wb_tb, wb_sm k hk]
  apply BitVec.eq_of_toNat_eq
  rw [BitVec.shiftLeft_eq', BitVec.toNat_shiftLeft, BitVec.toNat_ofNat, BitVec.toNat_ofNat, BitVec.toNat_ofNat, Nat.mod_eq_of_lt (show k < 2 ^ 64 by omega), Nat.shiftLeft_eq, Nat.mul_mod, Nat.mod_mod, ← Nat.mul_mod]
theorem wb_and {a b : Nat} (ha : a < 2 ^ 64) (hb : b < 2 ^ 64) : lN a &&& lN b = lN (a &&& b) := by
  apply wb_inj
  rw [Int64.toBitVec_and, wb_tb, wb_tb, wb_tb]
  apply BitVec.eq_of_toNat_eq
  rw [BitVec.toNat_and, BitVec.toNat_ofNat, BitVec.toNat_ofNat, BitVec.toNat_ofNat, Nat.mod_eq_of_lt ha, Nat.mod_eq_of_lt hb, Nat.mod_eq_of_lt (Nat.and_lt_two_pow _ hb)]
theorem wb_or {a b : Nat} (ha : a < 2 ^ 64) (hb : b < 2 ^ 64) : lN a ||| lN b = lN (a ||| b) := by
  apply wb_inj
  rw [Int64.toBitVec_or, wb_tb, wb_tb, wb_tb]
  apply BitVec.eq_of_toNat_eq
  rw [BitVec.toNat_or, BitVec.toNat_ofNat, BitVec.toNat_ofNat, BitVec.toNat_ofNat, Nat.mod_eq_of_lt ha, Nat.mod_eq_of_lt hb, Nat.mod_eq_of_lt (Nat.or_lt_two_pow ha hb)]
theorem wb_mask {n k : Nat} (hn : n < 2 ^ 64) (hk : k < 64) : lN n &&& lN (2 ^ k - 1) = lN (n % 2 ^ k) := by
  rw [wb_and hn (by have := wb_lt2 hk; omega), Nat.and_two_pow_sub_one_eq_mod]
theorem wb_a1 {n : Nat} (hn : n < 2 ^ 64) : lN n &&& 1 = lN (n % 2) := wb_mask (k := 1) hn (by decide)
theorem wb_bit {n k : Nat} (hn : n < 2 ^ 64) (hk : k < 64) : ((lN n).toUInt64 >>> ((nI k).toInt64.toUInt64 &&& Int64.toUInt64 63)).toInt64 &&& 1 = lN (n / 2 ^ k % 2) := by
  rw [wb_shr hn hk, wb_a1 (Nat.lt_of_le_of_lt (Nat.div_le_self _ _) hn)]
/-- digits, the least first -/
def dg (B : Nat) (f : Nat → Nat) : Nat → Nat
  | 0 => 0
  | n + 1 => f 0 + B * dg B (fun j => f (j + 1)) n
theorem dg_cong {B : Nat} : ∀ {n : Nat} {f g : Nat → Nat}, (∀ j, j < n → f j = g j) → dg B f n = dg B g n
  | 0, _, _, _ => rfl
  | n + 1, f, g, h => by rw [dg, dg, h 0 (by omega), dg_cong (fun j hj => h (j + 1) (by omega))]
theorem dg_add {B : Nat} : ∀ {n : Nat} {f g : Nat → Nat}, dg B f n + dg B g n = dg B (fun j => f j + g j) n
  | 0, _, _ => rfl
  | n + 1, f, g => by
    rw [dg, dg, dg, ← dg_add (n := n), Nat.mul_add]; omega
theorem dg_le {B : Nat} : ∀ {n : Nat} {f g : Nat → Nat}, (∀ j, j < n → g j ≤ f j) → dg B g n ≤ dg B f n
  | 0, _, _, _ => Nat.le_refl _
  | n + 1, f, g, h => by
    rw [dg, dg]
    exact Nat.add_le_add (h 0 (by omega)) (Nat.mul_le_mul_left _ (dg_le (fun j hj => h (j + 1) (by omega))))
theorem dg_sub {B n : Nat} {f g : Nat → Nat} (h : ∀ j, j < n → g j ≤ f j) : dg B f n - dg B g n = dg B (fun j => f j - g j) n := by
  have e : dg B (fun j => f j - g j) n + dg B g n = dg B f n := by
    rw [dg_add]; exact dg_cong (fun j hj => Nat.sub_add_cancel (h j hj))
  omega
theorem dg_push {B : Nat} : ∀ {n : Nat} {f : Nat → Nat}, f n = 0 → dg B f (n + 1) = dg B f n
  | 0, f, h => by rw [dg, dg, h]; simp [dg]
  | n + 1, f, h => by rw [dg, dg_push (n := n) (f := fun j => f (j + 1)) h]; rfl
theorem dg_div {B n : Nat} {f : Nat → Nat} (h0 : f 0 < B) (hn : f n = 0) : dg B f n / B = dg B (fun j => f (j + 1)) n := by
  cases n with
  | zero => rw [dg, dg]; exact Nat.zero_div _
  | succ n =>
    rw [dg_push (n := n) (f := fun j => f (j + 1)) hn, dg, Nat.add_mul_div_left _ _ (by omega), Nat.div_eq_of_lt h0, Nat.zero_add]
theorem and_dg {b x y X Y : Nat} (hx : x < 2 ^ b) (hy : y < 2 ^ b) : (x + 2 ^ b * X) &&& (y + 2 ^ b * Y) = (x &&& y) + 2 ^ b * (X &&& Y) := by
  apply Nat.eq_of_testBit_eq
  intro i
  have hxy : x &&& y < 2 ^ b := Nat.and_lt_two_pow _ hy
  rw [Nat.testBit_and, Nat.add_comm x, Nat.add_comm y, Nat.add_comm (x &&& y), Nat.testBit_two_pow_mul_add _ hx, Nat.testBit_two_pow_mul_add _ hy, Nat.testBit_two_pow_mul_add _ hxy]
  split
  · rw [Nat.testBit_and]
  · rw [Nat.testBit_and]
theorem dg_and {b : Nat} : ∀ {n : Nat} {f g : Nat → Nat}, (∀ j, j < n → f j < 2 ^ b) → (∀ j, j < n → g j < 2 ^ b) → dg (2 ^ b) f n &&& dg (2 ^ b) g n = dg (2 ^ b) (fun j => f j &&& g j) n
  | 0, _, _, _, _ => by simp [dg]
  | n + 1, f, g, hf, hg => by
    rw [dg, dg, dg, and_dg (hf 0 (by omega)) (hg 0 (by omega)), dg_and (fun j hj => hf (j + 1) (by omega)) (fun j hj => hg (j + 1) (by omega))]
theorem dg_pair {B : Nat} : ∀ {n : Nat} {f : Nat → Nat}, dg B f (2 * n) = dg (B * B) (fun j => f (2 * j) + B * f (2 * j + 1)) n
  | 0, _ => rfl
  | n + 1, f => by
    rw [show 2 * (n + 1) = 2 * n + 1 + 1 by omega, dg, dg, dg, dg_pair (n := n)]
    rw [Nat.mul_add, ← Nat.mul_assoc, ← Nat.add_assoc]
    rfl
theorem dg_bits : ∀ (n m : Nat), m < 2 ^ n → m = dg 2 (fun i => (m.testBit i).toNat) n
  | 0, m, h => by rw [dg]; omega
  | n + 1, m, h => by
    have ih := dg_bits n (m / 2) (by rw [Nat.pow_succ] at h; omega)
    rw [dg]
    have e : (fun j => (m.testBit (j + 1)).toNat) = (fun i => ((m / 2).testBit i).toNat) := by
      funext j; rw [Nat.testBit_succ]
    rw [e, ← ih, Nat.testBit_zero]
    have : (decide (m % 2 = 1)).toNat = m % 2 := by
      rcases Nat.mod_two_eq_zero_or_one m with q | q <;> rw [q] <;> rfl
    rw [this]; omega
theorem cn_sum (t : Nat → Bool) : cn t 64 = ((((t 0).toNat + (t 1).toNat + ((t 2).toNat + (t 3).toNat)) + ((t 4).toNat + (t 5).toNat + ((t 6).toNat + (t 7).toNat))) + (((t 8).toNat + (t 9).toNat + ((t 10).toNat + (t 11).toNat)) + ((t 12).toNat + (t 13).toNat + ((t 14).toNat + (t 15).toNat))) + ((((t 16).toNat + (t 17).toNat + ((t 18).toNat + (t 19).toNat)) + ((t 20).toNat + (t 21).toNat + ((t 22).toNat + (t 23).toNat))) + (((t 24).toNat + (t 25).toNat + ((t 26).toNat + (t 27).toNat)) + ((t 28).toNat + (t 29).toNat + ((t 30).toNat + (t 31).toNat))))) +
    ((((t 32).toNat + (t 33).toNat + ((t 34).toNat + (t 35).toNat)) + ((t 36).toNat + (t 37).toNat + ((t 38).toNat + (t 39).toNat))) + (((t 40).toNat + (t 41).toNat + ((t 42).toNat + (t 43).toNat)) + ((t 44).toNat + (t 45).toNat + ((t 46).toNat + (t 47).toNat))) + ((((t 48).toNat + (t 49).toNat + ((t 50).toNat + (t 51).toNat)) + ((t 52).toNat + (t 53).toNat + ((t 54).toNat + (t 55).toNat))) + (((t 56).toNat + (t 57).toNat + ((t 58).toNat + (t 59).toNat)) + ((t 60).toNat + (t 61).toNat + ((t 62).toNat + (t 63).toNat))))) := by
  have e : ∀ b : Bool, (if b = true then 1 else 0) = b.toNat := fun b => by cases b <;> rfl
  simp only [cn, e]
  omega
theorem and_lo1 : ∀ a, a < 2 → ∀ b, b < 2 → (a + 2 * b) &&& 1 = a := by decide
theorem and_lo3 : ∀ a, a < 4 → ∀ b, b < 4 → (a + 4 * b) &&& 3 = a := by decide
theorem and_lo15 : ∀ a, a < 16 → ∀ b, b < 16 → (a + 16 * b) &&& 15 = a := by decide +kernel
/-- the counting of Long.bitCount, over numbers -/
theorem bc_nat (m : Nat) (hm : m < 2 ^ 64) : ∀ x1 x2 x3 x4 x5 x6 : Nat, x1 = m - (m / 2 &&& 6148914691236517205) → x2 = (x1 &&& 3689348814741910323) + (x1 / 4 &&& 3689348814741910323) → x3 = (x2 + x2 / 16) &&& 1085102592571150095 → x4 = x3 + x3 / 256 → x5 = x4 + x4 / 65536 → x6 = x5 + x5 / 4294967296 →
    (m / 2 &&& 6148914691236517205) ≤ m ∧ x1 < 2 ^ 64 ∧ x2 < 2 ^ 64 ∧ x2 + x2 / 16 < 2 ^ 64 ∧ x3 < 2 ^ 60 ∧ x6 % 128 = cn (fun i => m.testBit i) 64 := by
  intro x1 x2 x3 x4 x5 x6 e1 e2 e3 e4 e5 e6
  obtain ⟨t, ht⟩ : ∃ t : Nat → Nat, t = fun i => (m.testBit i).toNat := ⟨_, rfl⟩
  have t2 : ∀ i, t i < 2 := fun i => by rw [ht]; show (m.testBit i).toNat < 2; cases m.testBit i <;> decide
  have t64 : ∀ i, 64 ≤ i → t i = 0 := fun i hi => by
    rw [ht]; show (m.testBit i).toNat = 0
    rw [Nat.testBit_lt_two_pow (Nat.lt_of_lt_of_le hm (Nat.pow_le_pow_right (by decide) hi))]; rfl
  have h0 : m = dg 2 t 64 := by rw [ht]; exact dg_bits 64 m hm
  have h4 : m = dg 4 (fun j => t (2 * j) + 2 * t (2 * j + 1)) 32 := by rw [h0]; exact dg_pair (B := 2) (n := 32) (f := t)
  have g4 : m / 2 = dg 4 (fun j => t (2 * j + 1) + 2 * t (2 * j + 1 + 1)) 32 := by
    rw [h0, dg_div (t2 0) (t64 64 (by omega))]; exact dg_pair (B := 2) (n := 32) (f := fun j => t (j + 1))
  have a1 : m / 2 &&& 6148914691236517205 = dg 4 (fun j => t (2 * j + 1)) 32 := by
    rw [g4, show 6148914691236517205 = dg (2 ^ 2) (fun _ => 1) 32 by decide +kernel]
    rw [show (4 : Nat) = 2 ^ 2 from rfl, dg_and (fun j _ => by have := t2 (2 * j + 1); have := t2 (2 * j + 1 + 1); omega) (fun j _ => by decide)]
    exact dg_cong (fun j _ => and_lo1 _ (t2 _) _ (t2 _))
  obtain ⟨s, hs⟩ : ∃ s : Nat → Nat, s = fun j => t (2 * j) + t (2 * j + 1) := ⟨_, rfl⟩
  have s3 : ∀ j, s j ≤ 2 := fun j => by rw [hs]; show t (2 * j) + t (2 * j + 1) ≤ 2; have := t2 (2 * j); have := t2 (2 * j + 1); omega
  have s32 : ∀ j, 32 ≤ j → s j = 0 := fun j hj => by rw [hs]; show t (2 * j) + t (2 * j + 1) = 0; rw [t64 _ (by omega), t64 _ (by omega)]
  have f1 : x1 = dg 4 s 32 := by
    rw [e1, a1, h4, dg_sub (fun j _ => by omega), hs]
    exact dg_cong (fun j _ => by omega)
  have r1 : x1 = dg 16 (fun j => s (2 * j) + 4 * s (2 * j + 1)) 16 := by rw [f1]; exact dg_pair (B := 4) (n := 16) (f := s)
  have r2 : x1 / 4 = dg 16 (fun j => s (2 * j + 1) + 4 * s (2 * j + 1 + 1)) 16 := by
    rw [f1, dg_div (by have := s3 0; omega) (s32 32 (by omega))]; exact dg_pair (B := 4) (n := 16) (f := fun j => s (j + 1))
  have m3 : 3689348814741910323 = dg (2 ^ 4) (fun _ => 3) 16 := by decide +kernel
  obtain ⟨q, hq⟩ : ∃ q : Nat → Nat, q = fun j => s (2 * j) + s (2 * j + 1) := ⟨_, rfl⟩
  have q4 : ∀ j, q j ≤ 4 := fun j => by rw [hq]; show s (2 * j) + s (2 * j + 1) ≤ 4; have := s3 (2 * j); have := s3 (2 * j + 1); omega
  have q16 : ∀ j, 16 ≤ j → q j = 0 := fun j hj => by rw [hq]; show s (2 * j) + s (2 * j + 1) = 0; rw [s32 _ (by omega), s32 _ (by omega)]
  have f2 : x2 = dg 16 q 16 := by
    rw [e2, r2, r1, m3, show (16 : Nat) = 2 ^ 4 from rfl, dg_and (fun j _ => by have := s3 (2 * j); have := s3 (2 * j + 1); omega) (fun j _ => by decide), dg_and (fun j _ => by have := s3 (2 * j + 1); have := s3 (2 * j + 1 + 1); omega) (fun j _ => by decide), dg_add, hq]
    exact dg_cong (fun j _ => by
      rw [and_lo3 _ (by have := s3 (2 * j); omega) _ (by have := s3 (2 * j + 1); omega), and_lo3 _ (by have := s3 (2 * j + 1); omega) _ (by have := s3 (2 * j + 1 + 1); omega)])
  have r3 : x2 + x2 / 16 = dg 256 (fun j => (q (2 * j) + q (2 * j + 1)) + 16 * (q (2 * j + 1) + q (2 * j + 1 + 1))) 8 := by
    rw [f2, dg_div (by have := q4 0; omega) (q16 16 (by omega)), dg_add]; exact dg_pair (B := 16) (n := 8) (f := fun j => q j + q (j + 1))
  obtain ⟨c, hc⟩ : ∃ c : Nat → Nat, c = fun j => q (2 * j) + q (2 * j + 1) := ⟨_, rfl⟩
  have c8 : ∀ j, c j ≤ 8 := fun j => by rw [hc]; show q (2 * j) + q (2 * j + 1) ≤ 8; have := q4 (2 * j); have := q4 (2 * j + 1); omega
  have f3 : x3 = dg 256 c 8 := by
    rw [e3, r3, show 1085102592571150095 = dg (2 ^ 8) (fun _ => 15) 8 by decide +kernel, show (256 : Nat) = 2 ^ 8 from rfl, dg_and (fun j _ => by have := q4 (2 * j); have := q4 (2 * j + 1); have := q4 (2 * j + 1 + 1); omega) (fun j _ => by decide), hc]
    exact dg_cong (fun j _ => and_lo15 _ (by have := q4 (2 * j); have := q4 (2 * j + 1); omega) _ (by have := q4 (2 * j + 1); have := q4 (2 * j + 1 + 1); omega))
  have cz : ∀ j, 8 ≤ j → c j = 0 := fun j hj => by rw [hc]; show q (2 * j) + q (2 * j + 1) = 0; rw [q16 _ (by omega), q16 _ (by omega)]
  obtain ⟨d, hd⟩ : ∃ d : Nat → Nat, d = fun j => c j + c (j + 1) := ⟨_, rfl⟩
  have dz : ∀ j, 8 ≤ j → d j = 0 := fun j hj => by rw [hd]; show c j + c (j + 1) = 0; rw [cz _ hj, cz _ (by omega)]
  have d16 : ∀ j, d j ≤ 16 := fun j => by rw [hd]; show c j + c (j + 1) ≤ 16; have := c8 j; have := c8 (j + 1); omega
  have f4 : x4 = dg 256 d 8 := by rw [e4, f3, dg_div (by have := c8 0; omega) (cz 8 (by omega)), dg_add, hd]
  obtain ⟨e, he⟩ : ∃ e : Nat → Nat, e = fun j => d j + d (j + 2) := ⟨_, rfl⟩
  have ez : ∀ j, 8 ≤ j → e j = 0 := fun j hj => by rw [he]; show d j + d (j + 2) = 0; rw [dz _ hj, dz _ (by omega)]
  have e32 : ∀ j, e j ≤ 32 := fun j => by rw [he]; show d j + d (j + 2) ≤ 32; have := d16 j; have := d16 (j + 2); omega
  have f5 : x5 = dg 256 e 8 := by
    rw [e5, f4, show 65536 = 256 * 256 from rfl, ← Nat.div_div_eq_div_mul, dg_div (by have := d16 0; omega) (dz 8 (by omega)), dg_div (f := fun j => d (j + 1)) (by show d 1 < 256; have := d16 1; omega) (dz 9 (by omega)), dg_add, he]
  have f6 : x6 = dg 256 (fun j => e j + e (j + 4)) 8 := by
    rw [e6, f5, show 4294967296 = 256 * 256 * 256 * 256 from rfl, ← Nat.div_div_eq_div_mul, ← Nat.div_div_eq_div_mul, ← Nat.div_div_eq_div_mul, dg_div (by have := e32 0; omega) (ez 8 (by omega)), dg_div (f := fun j => e (j + 1)) (by show e 1 < 256; have := e32 1; omega) (ez 9 (by omega)), dg_div (f := fun j => e (j + 1 + 1)) (by show e 2 < 256; have := e32 2; omega) (ez 10 (by omega)), dg_div (f := fun j => e (j + 1 + 1 + 1)) (by show e 3 < 256; have := e32 3; omega) (ez 11 (by omega)), dg_add]
  have f60 : x6 = (e 0 + e 4) + 256 * dg 256 (fun j => e (j + 1) + e (j + 1 + 4)) 7 := by rw [f6]; rfl
  have e0 : e 0 + e 4 = c 0 + c 1 + (c 2 + c 3) + (c 4 + c 5 + (c 6 + c 7)) := by rw [he, hd]
  have k0 := c8 0; have k1 := c8 1; have k2 := c8 2; have k3 := c8 3; have k4 := c8 4; have k5 := c8 5; have k6 := c8 6; have k7 := c8 7
  have hsum : cn (fun i => m.testBit i) 64 = c 0 + c 1 + (c 2 + c 3) + (c 4 + c 5 + (c 6 + c 7)) := by
    rw [cn_sum, hc, hq, hs, ht]
  have b2 : x2 ≤ dg 16 (fun _ => 4) 16 := by rw [f2]; exact dg_le (fun j _ => q4 j)
  have b2' : dg 16 (fun _ => 4) 16 = 4919131752989213764 := by decide +kernel
  have b3 : x3 ≤ dg 256 (fun _ => 8) 8 := by rw [f3]; exact dg_le (fun j _ => c8 j)
  have b3' : dg 256 (fun _ => 8) 8 = 578721382704613384 := by decide +kernel
  have b1 : x1 ≤ m := by rw [e1]; exact Nat.sub_le _ _
  refine ⟨by rw [a1, h4]; exact dg_le (fun j _ => by omega), Nat.lt_of_le_of_lt b1 hm, by omega, by omega, by omega, ?_⟩
  rw [hsum, ← e0, f60]
  omega
theorem bc_ok (a x1 x2 x3 x4 x5 x6 : Int64) (e1 : x1 = a - ((a.toUInt64 >>> ((1 : Int32).toInt64.toUInt64 &&& Int64.toUInt64 63)).toInt64 &&& 6148914691236517205)) (e2 : x2 = (x1 &&& 3689348814741910323) + ((x1.toUInt64 >>> ((2 : Int32).toInt64.toUInt64 &&& Int64.toUInt64 63)).toInt64 &&& 3689348814741910323))
    (e3 : x3 = (x2 + (x2.toUInt64 >>> ((4 : Int32).toInt64.toUInt64 &&& Int64.toUInt64 63)).toInt64) &&& 1085102592571150095) (e4 : x4 = x3 + (x3.toUInt64 >>> ((8 : Int32).toInt64.toUInt64 &&& Int64.toUInt64 63)).toInt64) (e5 : x5 = x4 + (x4.toUInt64 >>> ((16 : Int32).toInt64.toUInt64 &&& Int64.toUInt64 63)).toInt64) (e6 : x6 = x5 + (x5.toUInt64 >>> ((32 : Int32).toInt64.toUInt64 &&& Int64.toUInt64 63)).toInt64) : x6.toInt32 &&& 127 = nI (pcn a) := by
  obtain ⟨m, hm, rfl⟩ := wb_of a
  obtain ⟨h1, h2, h3, h4, h5, h6⟩ := bc_nat m hm _ _ _ _ _ _ rfl rfl rfl rfl rfl rfl
  have sh : ∀ (n k : Nat), n < 2 ^ 64 → k < 64 → ((lN n).toUInt64 >>> ((nI k).toInt64.toUInt64 &&& Int64.toUInt64 63)).toInt64 = lN (n / 2 ^ k) := fun n k h h' => wb_shr h h'
  have d : ∀ n k : Nat, n < 2 ^ 64 → n / 2 ^ k < 2 ^ 64 := fun n k h => Nat.lt_of_le_of_lt (Nat.div_le_self _ _) h
  have c1 : (lN m - (((lN m).toUInt64 >>> ((1 : Int32).toInt64.toUInt64 &&& Int64.toUInt64 63)).toInt64 &&& 6148914691236517205)) = lN (m - (m / 2 &&& 6148914691236517205)) := by
    rw [show ((lN m).toUInt64 >>> ((1 : Int32).toInt64.toUInt64 &&& Int64.toUInt64 63)).toInt64 = lN (m / 2) from sh m 1 hm (by decide), show (6148914691236517205 : Int64) = lN 6148914691236517205 from rfl, wb_and (d m 1 hm) (by decide), lN_sub h1]
  rw [c1] at e1
  obtain ⟨n1, hn1⟩ : ∃ n1, n1 = m - (m / 2 &&& 6148914691236517205) := ⟨_, rfl⟩
  rw [← hn1] at e1 h2 h3 h4 h5 h6
  subst e1
  have c2 : ((lN n1 &&& 3689348814741910323) + (((lN n1).toUInt64 >>> ((2 : Int32).toInt64.toUInt64 &&& Int64.toUInt64 63)).toInt64 &&& 3689348814741910323)) = lN ((n1 &&& 3689348814741910323) + (n1 / 4 &&& 3689348814741910323)) := by
    rw [show ((lN n1).toUInt64 >>> ((2 : Int32).toInt64.toUInt64 &&& Int64.toUInt64 63)).toInt64 = lN (n1 / 4) from sh n1 2 h2 (by decide), show (3689348814741910323 : Int64) = lN 3689348814741910323 from rfl, wb_and h2 (by decide), wb_and (d n1 2 h2) (by decide), lN_add]
  rw [c2] at e2
  obtain ⟨n2, hn2⟩ : ∃ n2, n2 = (n1 &&& 3689348814741910323) + (n1 / 4 &&& 3689348814741910323) := ⟨_, rfl⟩
  rw [← hn2] at e2 h3 h4 h5 h6
  subst e2
  have c3 : ((lN n2 + ((lN n2).toUInt64 >>> ((4 : Int32).toInt64.toUInt64 &&& Int64.toUInt64 63)).toInt64) &&& 1085102592571150095) = lN ((n2 + n2 / 16) &&& 1085102592571150095) := by
    rw [show ((lN n2).toUInt64 >>> ((4 : Int32).toInt64.toUInt64 &&& Int64.toUInt64 63)).toInt64 = lN (n2 / 16) from sh n2 4 h3 (by decide), lN_add, show (1085102592571150095 : Int64) = lN 1085102592571150095 from rfl, wb_and h4 (by decide)]
  rw [c3] at e3
  obtain ⟨n3, hn3⟩ : ∃ n3, n3 = (n2 + n2 / 16) &&& 1085102592571150095 := ⟨_, rfl⟩
  rw [← hn3] at e3 h5 h6
  subst e3
  have g3 : n3 < 2 ^ 64 := by omega
  have c4 : (lN n3 + ((lN n3).toUInt64 >>> ((8 : Int32).toInt64.toUInt64 &&& Int64.toUInt64 63)).toInt64) = lN (n3 + n3 / 256) := by
    rw [show ((lN n3).toUInt64 >>> ((8 : Int32).toInt64.toUInt64 &&& Int64.toUInt64 63)).toInt64 = lN (n3 / 256) from sh n3 8 g3 (by decide), lN_add]
  rw [c4] at e4
  obtain ⟨n4, hn4⟩ : ∃ n4, n4 = n3 + n3 / 256 := ⟨_, rfl⟩
  rw [← hn4] at e4 h6
  subst e4
  have g4 : n4 < 2 ^ 61 := by omega
  have c5 : (lN n4 + ((lN n4).toUInt64 >>> ((16 : Int32).toInt64.toUInt64 &&& Int64.toUInt64 63)).toInt64) = lN (n4 + n4 / 65536) := by
    rw [show ((lN n4).toUInt64 >>> ((16 : Int32).toInt64.toUInt64 &&& Int64.toUInt64 63)).toInt64 = lN (n4 / 65536) from sh n4 16 (by omega) (by decide), lN_add]
  rw [c5] at e5
  obtain ⟨n5, hn5⟩ : ∃ n5, n5 = n4 + n4 / 65536 := ⟨_, rfl⟩
  rw [← hn5] at e5 h6
  subst e5
  have c6 : (lN n5 + ((lN n5).toUInt64 >>> ((32 : Int32).toInt64.toUInt64 &&& Int64.toUInt64 63)).toInt64) = lN (n5 + n5 / 4294967296) := by
    rw [show ((lN n5).toUInt64 >>> ((32 : Int32).toInt64.toUInt64 &&& Int64.toUInt64 63)).toInt64 = lN (n5 / 4294967296) from sh n5 32 (by omega) (by decide), lN_add]
  rw [e6, c6, lN_i]
  have e7 : (nI (n5 + n5 / 4294967296) &&& 127) = nI ((n5 + n5 / 4294967296) % 2 ^ 7) := by
    have h32 : nI (n5 + n5 / 4294967296) = nI ((n5 + n5 / 4294967296) % 2 ^ 32) := by
      apply Int32.toBitVec_inj.mp
      show BitVec.ofNat 32 _ = BitVec.ofNat 32 _
      apply BitVec.eq_of_toNat_eq
      rw [BitVec.toNat_ofNat, BitVec.toNat_ofNat, Nat.mod_mod]
    rw [h32, pk_andN (Nat.mod_lt _ (by decide)) 7 rfl, Nat.mod_mod_of_dvd _ (by decide)]
  rw [e7, h6]
  apply congrArg
  unfold pcn
  exact cn_cong (fun k hk => by
    show m.testBit k = (lN m).toBitVec.getLsbD k
    rw [wb_tb, BitVec.getLsbD_ofNat]
    simp [hk])
