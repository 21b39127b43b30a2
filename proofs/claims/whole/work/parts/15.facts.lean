/-! more facts for sayings -/
def RW (lt ng pl : Nat → Int32) (y : Sy) (k : Nat) : Prop := lt k = nI (y.2.1 k) ∧ y.2.1 k < 6 ∧ ng k = bi (y.2.2.1 k) ∧ pl k = bi (y.2.2.2 k)
theorem pr_2 {cs : Nat → Int32} {k : Nat} (h : (pr cs k).1 = 2) : pr cs (k + 1) = (0, (pr cs k).2.1, (pr cs k).2.2.1, (pr cs k).2.2.2.1, fun j => if j = (pr cs k).2.1 then decide (cs k = 43) else (pr cs k).2.2.2.2 j) := by rw [pr, if_pos h]
theorem pr_n {cs : Nat → Int32} {k : Nat} (h : (pr cs k).1 = 0) (h1 : cs k = 110) : pr cs (k + 1) = (1, (pr cs k).2) := by rw [pr, if_neg (by rw [h]; decide), if_pos ⟨h, h1⟩]
theorem pr_l {cs : Nat → Int32} {k : Nat} (h : ¬ (pr cs k).1 = 2) (h1 : ¬ cs k = 110) : pr cs (k + 1) = (2, (pr cs k).2.1 + 1, fun j => if j = (pr cs k).2.1 then (cs k).toNatClampNeg - 97 else (pr cs k).2.2.1 j, fun j => if j = (pr cs k).2.1 then decide ((pr cs k).1 = 1) else (pr cs k).2.2.2.1 j, (pr cs k).2.2.2.2) := by rw [pr, if_neg h, if_neg (fun q => h1 q.2)]
theorem rd_step {cs : Nat → Int32} {k st nw : Nat} (hrs : rs cs k = some (st, nw)) (hst : ¬ st = 2) (hl : 97 ≤ cs k ∧ cs k ≤ 102) {lt ng pl : Nat → Int32} {pv nv : Int32} (hpv : pv = bi ((pr cs k).2.2.2.2 nw)) (hnv : nv = bi (decide (st = 1))) (hw : ∀ j, j < nw → RW lt ng pl (pr cs k).2 j) :
    ∀ j, j < nw + 1 → RW (upd lt nw (cs k - 97)) (upd ng nw nv) (upd pl nw pv) (pr cs (k + 1)).2 j := by
  intro j hj
  have hp := pr_rs hrs
  simp only at hp
  obtain ⟨l1, l2, l3, -⟩ := let_of hl
  rw [pr_l (by rw [hp.1]; exact hst) l3]
  rcases Nat.lt_or_ge j nw with q | q
  · obtain ⟨a1, a2, a3, a4⟩ := hw j q
    have n : ¬ j = nw := by omega
    refine ⟨?_, ?_, ?_, ?_⟩
    · rw [upd_n _ _ n]; simp only [hp.2, n, if_false]; exact a1
    · simp only [hp.2, n, if_false]; exact a2
    · rw [upd_n _ _ n]; simp only [hp.2, n, if_false]; exact a3
    · rw [upd_n _ _ n]; exact a4
  · have e : j = nw := by omega
    subst e
    refine ⟨?_, ?_, ?_, ?_⟩
    · rw [upd_s]; simp only [hp.2, if_true]; exact l1
    · simp only [hp.2, if_true]; exact l2
    · rw [upd_s]; simp only [hp.2, if_true, hp.1]; exact hnv
    · rw [upd_s]; exact hpv
theorem cn_t {p : Nat → Bool} {n : Nat} (h : p n = true) : nI (cn p n) + 1 = nI (cn p (n + 1)) := by rw [cn, if_pos h, nI_1]
theorem cn_f {p : Nat → Bool} {n : Nat} (h : p n = false) : nI (cn p n) + 0 = nI (cn p (n + 1)) := by rw [cn, if_neg (by rw [h]; decide), Nat.add_zero]; exact Int32.add_zero _
theorem cn_f' {p : Nat → Bool} {n : Nat} (h : p n = false) : nI (cn p n) = nI (cn p (n + 1)) := by rw [cn, if_neg (by rw [h]; decide), Nat.add_zero]
theorem sh1 : ∀ q, q < 31 → (1 : Int32) <<< (nI q &&& 31) = nI (2 ^ q) := by decide +kernel
theorem jo_or : ∀ w, w < 8 → ∀ c, c < 3 → ∀ i, i < 3 → ∀ v, v < 4 → v < 2 ^ i → nI v ||| ((((nI w).toInt64.toUInt64 >>> ((nI c).toInt64.toUInt64 &&& Int64.toUInt64 63)).toInt64 &&& 1).toInt32 <<< ((nI (i + 1) - 1) &&& 31)) = nI (v + (if w.testBit c = true then 2 ^ i else 0)) := by decide +kernel
theorem jo_bit : ∀ i, i < 3 → ∀ v, v < 4 → v < 2 ^ i → ∀ x, x = 0 ∨ x = 2 ^ i → v + x < 2 ^ (i + 1) ∧ (v + x).testBit i = decide (x = 2 ^ i) ∧ ∀ k, k < 3 → k < i → (v + x).testBit k = v.testBit k := by
  have h1 : ∀ i, i < 3 → ∀ v, v < 4 → v < 2 ^ i → v + 2 ^ i < 2 ^ (i + 1) ∧ v < 2 ^ (i + 1) := by decide +kernel
  have h2 : ∀ i, i < 3 → ∀ v, v < 4 → v < 2 ^ i → (v + 2 ^ i).testBit i = true ∧ v.testBit i = false := by decide +kernel
  have h3 : ∀ i, i < 3 → ∀ v, v < 4 → v < 2 ^ i → ∀ k, k < 3 → k < i → (v + 2 ^ i).testBit k = v.testBit k := by decide +kernel
  intro i hi v hv hv2 x hx
  have hp : 0 < 2 ^ i := Nat.two_pow_pos _
  rcases hx with rfl | rfl
  · exact ⟨(h1 i hi v hv hv2).2, by rw [Nat.add_zero, (h2 i hi v hv hv2).2]; symm; exact decide_eq_false (by omega), fun k _ _ => rfl⟩
  · exact ⟨(h1 i hi v hv hv2).1, by rw [(h2 i hi v hv hv2).1]; symm; exact decide_eq_true rfl, fun k a b => h3 i hi v hv hv2 k a b⟩
theorem jo_step {pl : Nat → Bool} {w i v : Nat} (hi : i < 3) (hv : v < 2 ^ i) (hb : ∀ k, k < i → v.testBit k = jo pl w k) {x : Nat} (hx : x = if jo pl w i = true then 2 ^ i else 0) : v + x < 2 ^ (i + 1) ∧ ∀ k, k < i + 1 → (v + x).testBit k = jo pl w k := by
  have h4 : 2 ^ i ≤ 4 := by
    have : ∀ i, i < 3 → 2 ^ i ≤ 4 := by decide
    exact this i hi
  obtain ⟨h1, h2, h3⟩ := jo_bit i hi v (by omega) hv x (by rw [hx]; split; exact Or.inr rfl; exact Or.inl rfl)
  refine ⟨h1, fun k hk => ?_⟩
  rcases Nat.lt_or_ge k i with q | q
  · rw [h3 k (by omega) q]; exact hb k q
  · have e : k = i := by omega
    subst e
    rw [h2, hx]
    have : 0 < 2 ^ k := Nat.two_pow_pos _
    cases jo pl w k with
    | true => simp
    | false => simp; omega
