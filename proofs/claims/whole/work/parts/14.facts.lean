/-! facts of sayings -/
def SyW (wd : Int32) (lt ng pl : Nat → Int32) (y : Sy) : Prop := wd = nI y.1 ∧ y.1 ≤ 4 ∧ ∀ k, k < y.1 → lt k = nI (y.2.1 k) ∧ y.2.1 k < 6 ∧ ng k = bi (y.2.2.1 k) ∧ pl k = bi (y.2.2.2 k)
def SnW (sn : Nat → Int32) (z : Nat → Nat) : Prop := ∀ k, k < 6 → sn k = nI (z k) ∧ z k < 6
theorem nar_bi (b : Bool) : vp_nar .boolean (bi b) = bi b := by cases b <;> rfl
theorem nar_eq {x : Int32} {b : Bool} (h : x = bi b) : vp_nar .boolean x = x := by rw [h]; exact nar_bi b
theorem bit16 : ∀ s, s < 16 → ∀ k, k < 4 → ((nI s &&& ((1 : Int32) <<< (nI k &&& 31)) = 0) ↔ s.testBit k = false) := by decide +kernel
theorem jn_ite {s k : Nat} {x y : Int64} {a b : Int32} (hs : s < 16) (hk : k < 4) (ha : a = nI s) (hb : b = nI k) : (if a &&& ((1 : Int32) <<< (b &&& 31)) = 0 then x &&& y else x ||| y) = jn (s.testBit k) x y := by
  subst ha; subst hb
  by_cases h : nI s &&& ((1 : Int32) <<< (nI k &&& 31)) = 0
  · rw [if_pos h, (bit16 s hs k hk).mp h]; rfl
  · rw [if_neg h]
    cases e : s.testBit k with
    | false => exact absurd ((bit16 s hs k hk).mpr e) h
    | true => rfl
theorem cn_le (p : Nat → Bool) : ∀ n, cn p n ≤ n
  | 0 => Nat.le_refl _
  | n + 1 => by have := cn_le p n; rw [cn]; split <;> omega
theorem cn_cong {p q : Nat → Bool} : ∀ {n : Nat}, (∀ k, k < n → p k = q k) → cn p n = cn q n
  | 0, _ => rfl
  | n + 1, h => by rw [cn, cn, cn_cong (fun k hk => h k (by omega)), h n (by omega)]
theorem npl_le (pl : Nat → Bool) (n : Nat) : npl pl n ≤ n - 1 := cn_le _ _
theorem nbr_le {n : Nat} (h : n ≤ 4) : nbr n ≤ 5 := by unfold nbr; split <;> (try split) <;> omega
theorem NRp {n q : Nat} (hn : n ≤ 4) (hq : q ≤ n - 1) : nbr n * 2 ^ q * 2 ^ n ≤ 640 := by
  have : ∀ n, n ≤ 4 → ∀ q, q ≤ n - 1 → nbr n * 2 ^ q * 2 ^ n ≤ 640 := by decide +kernel
  exact this n hn q hq
theorem NR_le {y : Sy} (h : y.1 ≤ 4) : NR y ≤ 640 := by
  unfold NR
  split
  · omega
  · exact NRp h (npl_le _ _)
theorem NR_pos {y : Sy} (h : 0 < y.1) : 0 < NR y := by
  unfold NR
  rw [if_neg (by omega)]
  have h1 : 0 < nbr y.1 := by unfold nbr; split <;> (try split) <;> omega
  exact Nat.mul_pos (Nat.mul_pos h1 (Nat.two_pow_pos _)) (Nat.two_pow_pos _)
theorem brk_cong {n br : Nat} {o o' : Nat → Bool} {v v' : Nat → Int64} (hn : 1 ≤ n) (hn4 : n ≤ 4) (ho : ∀ k, k < n - 1 → o k = o' k) (hv : ∀ k, k < n → v k = v' k) : brk n br o v = brk n br o' v' := by
  have h4 : n = 1 ∨ n = 2 ∨ n = 3 ∨ n = 4 := by omega
  rcases h4 with rfl | rfl | rfl | rfl
  · exact hv 0 (by omega)
  · show jn (o 0) (v 0) (v 1) = jn (o' 0) (v' 0) (v' 1)
    rw [ho 0 (by omega), hv 0 (by omega), hv 1 (by omega)]
  · show br3 br o v = br3 br o' v'
    simp only [br3, ho 0 (by omega), ho 1 (by omega), hv 0 (by omega), hv 1 (by omega), hv 2 (by omega)]
  · show br4 br o v = br4 br o' v'
    simp only [br4, ho 0 (by omega), ho 1 (by omega), ho 2 (by omega), hv 0 (by omega), hv 1 (by omega), hv 2 (by omega), hv 3 (by omega)]
theorem TR_at {sn : Nat → Nat} {y : Sy} {b w s : Nat} (hw : w < 2 ^ npl y.2.2.2 y.1) (hs : s < 2 ^ y.1) : TR sn y ((b * 2 ^ npl y.2.2.2 y.1 + w) * 2 ^ y.1 + s) = brk y.1 b (jo y.2.2.2 w) (wv sn y.2.1 y.2.2.1 s) := by
  have hS : 0 < 2 ^ y.1 := Nat.two_pow_pos _
  have hQ : 0 < 2 ^ npl y.2.2.2 y.1 := Nat.two_pow_pos _
  have e1 : ((b * 2 ^ npl y.2.2.2 y.1 + w) * 2 ^ y.1 + s) / 2 ^ y.1 = b * 2 ^ npl y.2.2.2 y.1 + w := by
    rw [Nat.add_comm, Nat.add_mul_div_right _ _ hS, Nat.div_eq_of_lt hs, Nat.zero_add]
  have e2 : ((b * 2 ^ npl y.2.2.2 y.1 + w) * 2 ^ y.1 + s) % 2 ^ y.1 = s := by
    rw [Nat.add_comm, Nat.add_mul_mod_self_right, Nat.mod_eq_of_lt hs]
  have e3 : (b * 2 ^ npl y.2.2.2 y.1 + w) / 2 ^ npl y.2.2.2 y.1 = b := by
    rw [Nat.add_comm, Nat.add_mul_div_right _ _ hQ, Nat.div_eq_of_lt hw, Nat.zero_add]
  have e4 : (b * 2 ^ npl y.2.2.2 y.1 + w) % 2 ^ npl y.2.2.2 y.1 = w := by
    rw [Nat.add_comm, Nat.add_mul_mod_self_right, Nat.mod_eq_of_lt hw]
  unfold TR
  rw [e1, e2, e3, e4]
theorem ix_lt {b w s B Q S : Nat} (hb : b < B) (hw : w < Q) (hs : s < S) : (b * Q + w) * S + s < B * Q * S := by
  have h1 : b * Q + w < B * Q := by
    calc b * Q + w < b * Q + Q := by omega
      _ = (b + 1) * Q := by rw [Nat.succ_mul]
      _ ≤ B * Q := Nat.mul_le_mul_right _ hb
  calc (b * Q + w) * S + s < (b * Q + w) * S + S := by omega
    _ = (b * Q + w + 1) * S := by rw [Nat.succ_mul]
    _ ≤ B * Q * S := Nat.mul_le_mul_right _ h1
theorem orN_cong {f g : Nat → Int64} : ∀ {n : Nat}, (∀ k, k < n → f k = g k) → orN f n = orN g n
  | 0, _ => rfl
  | n + 1, h => by rw [orN, orN, orN_cong (fun k hk => h k (by omega)), h n (by omega)]
theorem mx_lt (f : Nat → Nat) : ∀ {n : Nat}, 0 < n → mx f n < n
  | n + 1, _ => by
    rw [mx]
    split
    · omega
    · rcases Nat.eq_zero_or_pos n with q | q
      · subst q; exact Nat.zero_lt_one
      · have := mx_lt f q; omega
theorem mn_lt (f : Nat → Nat) : ∀ {n : Nat}, 0 < n → mn f n < n
  | n + 1, _ => by
    rw [mn]
    split
    · omega
    · rcases Nat.eq_zero_or_pos n with q | q
      · subst q; exact Nat.zero_lt_one
      · have := mn_lt f q; omega
theorem mx_cong {f g : Nat → Nat} : ∀ {n : Nat}, (∀ k, k < n → f k = g k) → mx f n = mx g n
  | 0, _ => rfl
  | n + 1, h => by
    have e := mx_cong (n := n) (fun k hk => h k (by omega))
    rw [mx, mx, ← e, h n (by omega)]
    rcases Nat.eq_zero_or_pos n with q | q
    · subst q; rw [show mx f 0 = 0 from rfl, h 0 (by omega)]
    · rw [h (mx f n) (by have := mx_lt f q; omega)]
theorem mn_cong {f g : Nat → Nat} : ∀ {n : Nat}, (∀ k, k < n → f k = g k) → mn f n = mn g n
  | 0, _ => rfl
  | n + 1, h => by
    have e := mn_cong (n := n) (fun k hk => h k (by omega))
    rw [mn, mn, ← e, h n (by omega)]
    rcases Nat.eq_zero_or_pos n with q | q
    · subst q; rw [show mn f 0 = 0 from rfl, h 0 (by omega)]
    · rw [h (mn f n) (by have := mn_lt f q; omega)]
/-! a text read: state, words -/
def pr (cs : Nat → Int32) : Nat → Nat × Sy
  | 0 => (0, 0, fun _ => 0, fun _ => false, fun _ => false)
  | k + 1 =>
    if (pr cs k).1 = 2 then (0, (pr cs k).2.1, (pr cs k).2.2.1, (pr cs k).2.2.2.1, fun j => if j = (pr cs k).2.1 then decide (cs k = 43) else (pr cs k).2.2.2.2 j)
    else if (pr cs k).1 = 0 ∧ cs k = 110 then (1, (pr cs k).2)
    else (2, (pr cs k).2.1 + 1, fun j => if j = (pr cs k).2.1 then (cs k).toNatClampNeg - 97 else (pr cs k).2.2.1 j, fun j => if j = (pr cs k).2.1 then decide ((pr cs k).1 = 1) else (pr cs k).2.2.2.1 j, (pr cs k).2.2.2.2)
theorem sp0_i {c : Int32} {n : Nat} {s : Nat × Nat} (h : sp (0, n) c = some s) : (c = 110 ∧ s = (1, n)) ∨ (¬ c = 110 ∧ (97 ≤ c ∧ c ≤ 102) ∧ s = (2, n + 1)) := by
  unfold sp at h
  simp only [Nat.reduceEqDiff, if_false, true_and] at h
  split at h
  · rename_i h2; cases h; exact Or.inl ⟨h2, rfl⟩
  · rename_i h3
    split at h
    · rename_i h2; cases h; exact Or.inr ⟨h3, h2, rfl⟩
    · cases h
theorem sp1_i {c : Int32} {n : Nat} {s : Nat × Nat} (h : sp (1, n) c = some s) : (97 ≤ c ∧ c ≤ 102) ∧ s = (2, n + 1) := by
  unfold sp at h
  simp only [Nat.reduceEqDiff, if_false, false_and, Nat.one_ne_zero] at h
  split at h
  · rename_i h2; cases h; exact ⟨h2, rfl⟩
  · cases h
theorem sp2_i {c : Int32} {n : Nat} {s : Nat × Nat} (h : sp (2, n) c = some s) : (c = 38 ∨ c = 43) ∧ s = (0, n) := by
  unfold sp at h
  simp only [if_true] at h
  split at h
  · rename_i h2; cases h; exact ⟨h2.1, rfl⟩
  · cases h
theorem let_of {c : Int32} (h : 97 ≤ c ∧ c ≤ 102) : c - 97 = nI (c.toNatClampNeg - 97) ∧ c.toNatClampNeg - 97 < 6 ∧ ¬ c = 110 ∧ ¬ (c = 38 ∨ c = 43) := by
  obtain ⟨j, hj, rfl⟩ := nI_of2 (x := c) (M := 102) (n := 102) rfl (fun q => Int32.not_lt.mpr (Int32.le_trans (show (0 : Int32) ≤ 97 by decide) h.1) q) h.2
  have h97 : 97 ≤ j := (nI_leI (a := 97) (by decide) (by omega)).mp h.1
  have e : ∀ j, j ≤ 102 → 97 ≤ j → nI j - 97 = nI ((nI j).toNatClampNeg - 97) ∧ (nI j).toNatClampNeg - 97 < 6 ∧ ¬ nI j = 110 ∧ ¬ (nI j = 38 ∨ nI j = 43) := by decide +kernel
  exact e j hj h97
theorem pr_rs {cs : Nat → Int32} : ∀ {k : Nat} {s : Nat × Nat}, rs cs k = some s → (pr cs k).1 = s.1 ∧ (pr cs k).2.1 = s.2
  | 0, s, h => by rw [rs] at h; cases h; exact ⟨rfl, rfl⟩
  | k + 1, s, h => by
    rw [rs] at h
    cases e : rs cs k with
    | none => rw [e] at h; cases h
    | some s0 =>
      have ih := pr_rs e
      rw [e] at h
      have h : sp s0 (cs k) = some s := h
      obtain ⟨x, y⟩ := s0
      simp only at ih
      have hx := (rs_st e).1
      have h3 : x = 0 ∨ x = 1 ∨ x = 2 := by simp only at hx; omega
      rcases h3 with rfl | rfl | rfl
      · rcases sp0_i h with ⟨h1, rfl⟩ | ⟨h1, h2, rfl⟩
        · rw [pr, if_neg (by rw [ih.1]; decide), if_pos ⟨ih.1, h1⟩]; exact ⟨rfl, ih.2⟩
        · rw [pr, if_neg (by rw [ih.1]; decide), if_neg (fun q => h1 q.2)]; exact ⟨rfl, by rw [ih.2]⟩
      · obtain ⟨h1, rfl⟩ := sp1_i h
        rw [pr, if_neg (by rw [ih.1]; decide), if_neg (fun q => by rw [ih.1] at q; exact absurd q.1 (by decide))]; exact ⟨rfl, by rw [ih.2]⟩
      · obtain ⟨h1, rfl⟩ := sp2_i h
        rw [pr, if_pos ih.1]; exact ⟨rfl, ih.2⟩
