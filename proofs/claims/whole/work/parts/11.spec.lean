/-! THE SPEC: what class and reference both say -/
def bi (b : Bool) : Int32 := if b = true then 1 else 0
def tb (x : Int64) (k : Nat) : Bool := x.toBitVec.getLsbD k
/-- how many below n -/
def cn (p : Nat → Bool) : Nat → Nat
  | 0 => 0
  | n + 1 => cn p n + (if p n = true then 1 else 0)
/-- the first place at which p fails, n if there is none below n -/
def fp (p : Nat → Bool) : Nat → Nat
  | 0 => 0
  | n + 1 => if fp p n = n ∧ p n = true then n + 1 else fp p n
/-- the first below n with p as an int, -1 if there is none -/
def fi (p : Nat → Bool) (n : Nat) : Int32 := if fp (fun k => !p k) n < n then nI (fp (fun k => !p k) n) else -1
def orN (f : Nat → Int64) : Nat → Int64
  | 0 => 0
  | n + 1 => orN f n ||| f n
def mx (f : Nat → Nat) : Nat → Nat
  | 0 => 0
  | n + 1 => if f (mx f n) < f n then n else mx f n
def mn (f : Nat → Nat) : Nat → Nat
  | 0 => 0
  | n + 1 => if f n < f (mn f n) then n else mn f n
def pcn (x : Int64) : Nat := cn (tb x) 64
/-- a saying: words, letters, negated, a plus ahead -/
abbrev Sy : Type := Nat × (Nat → Nat) × (Nat → Bool) × (Nat → Bool)
def npl (pl : Nat → Bool) (n : Nat) : Nat := cn (fun k => pl (k + 1)) (n - 1)
def nbr (n : Nat) : Nat := if n = 4 then 5 else if n = 3 then 2 else 1
/-- is joining k (behind word k) OR -/
def jo (pl : Nat → Bool) (way k : Nat) : Bool := pl (k + 1) && way.testBit (cn (fun j => pl (j + 1)) k)
def wt1 (lt : Nat → Nat) (ng : Nat → Bool) (k : Nat) : Int64 := Wf (lt k) ^^^ (if ng k = true then -1 else 0)
def wt2 (sn lt : Nat → Nat) (ng : Nat → Bool) (k : Nat) : Int64 := Wf (sn (lt k)) ^^^ (if ng k = true then -1 else 0)
def wv (sn lt : Nat → Nat) (ng : Nat → Bool) (sec k : Nat) : Int64 := if sec.testBit k = true then wt2 sn lt ng k else wt1 lt ng k
def jn (b : Bool) (x y : Int64) : Int64 := if b = true then x ||| y else x &&& y
def br3 (br : Nat) (o : Nat → Bool) (v : Nat → Int64) : Int64 := if br = 0 then jn (o 1) (jn (o 0) (v 0) (v 1)) (v 2) else jn (o 0) (v 0) (jn (o 1) (v 1) (v 2))
def br4 (br : Nat) (o : Nat → Bool) (v : Nat → Int64) : Int64 := if br = 0 then jn (o 2) (jn (o 1) (jn (o 0) (v 0) (v 1)) (v 2)) (v 3) else if br = 1 then jn (o 2) (jn (o 0) (v 0) (jn (o 1) (v 1) (v 2))) (v 3) else if br = 2 then jn (o 1) (jn (o 0) (v 0) (v 1)) (jn (o 2) (v 2) (v 3)) else if br = 3 then jn (o 0) (v 0) (jn (o 2) (jn (o 1) (v 1) (v 2)) (v 3)) else jn (o 0) (v 0) (jn (o 1) (v 1) (jn (o 2) (v 2) (v 3)))
def brk (n br : Nat) (o : Nat → Bool) (v : Nat → Int64) : Int64 := if n = 1 then v 0 else if n = 2 then jn (o 0) (v 0) (v 1) else if n = 3 then br3 br o v else br4 br o v
def NR (y : Sy) : Nat := if y.1 = 0 then 0 else nbr y.1 * 2 ^ npl y.2.2.2 y.1 * 2 ^ y.1
def TR (sn : Nat → Nat) (y : Sy) (r : Nat) : Int64 := brk y.1 (r / 2 ^ y.1 / 2 ^ npl y.2.2.2 y.1) (jo y.2.2.2 (r / 2 ^ y.1 % 2 ^ npl y.2.2.2 y.1)) (wv sn y.2.1 y.2.2.1 (r % 2 ^ y.1))
/-! reading a text: state 0 (a word is due), 1 (its letter is due), 2 (behind a letter), and how many letters -/
def sp (s : Nat × Nat) (c : Int32) : Option (Nat × Nat) := if s.1 = 2 then (if (c = 38 ∨ c = 43) ∧ s.2 < 4 then some (0, s.2) else none) else if s.1 = 0 ∧ c = 110 then some (1, s.2) else if 97 ≤ c ∧ c ≤ 102 then some (2, s.2 + 1) else none
def rs (cs : Nat → Int32) : Nat → Option (Nat × Nat)
  | 0 => some (0, 0)
  | k + 1 => (rs cs k).bind (fun s => sp s (cs k))
def fsay (cs : Nat → Int32) (n : Nat) : Nat := fp (fun k => (rs cs (k + 1)).isSome) n
def isSay (cs : Nat → Int32) (n : Nat) : Bool := match rs cs n with
  | some s => s.1 == 2
  | none => false
def gse (cs : Nat → Int32) (k : Nat) : Bool := decide (k < 6) && decide (48 ≤ cs k ∧ cs k ≤ 53)
def fsen (cs : Nat → Int32) (n : Nat) : Nat := fp (gse cs) n
def isSen (cs : Nat → Int32) (n : Nat) : Bool := decide (n = 6) && decide (fsen cs n = n)
/-! small facts -/
theorem lt_of_nge {i n : Nat} (hi : i < 2 ^ 31) (h : ¬ nI n ≤ nI i) : i < n := by
  rcases Nat.lt_or_ge i n with q | q
  · exact q
  · exact absurd (nI_le q hi) h
theorem ge_of_le {i n : Nat} (hi : i < 2 ^ 31) (hn : n < 2 ^ 31) (h : nI n ≤ nI i) : n ≤ i := (nI_leI hn hi).mp h
theorem ite_t {c : Prop} [Decidable c] (h : ¬ (if c then (1 : Int32) else 0) = 0) : c := by
  by_cases q : c
  · exact q
  · rw [if_neg q] at h; exact absurd rfl h
theorem ite_f {c : Prop} [Decidable c] (h : (if c then (1 : Int32) else 0) = 0) : ¬ c := by
  intro q
  rw [if_pos q] at h
  exact absurd h (by decide)
theorem bi_t {b : Bool} (h : ¬ bi b = 0) : b = true := ite_t h
theorem bi_f {b : Bool} (h : bi b = 0) : b = false := by
  have := ite_f h
  cases b with
  | true => exact absurd rfl this
  | false => rfl
theorem upd_s (f : Nat → Int32) (k : Nat) (x : Int32) : upd f k x k = x := by simp [upd]
theorem upd_n (f : Nat → Int32) {k j : Nat} (x : Int32) (h : j ≠ k) : upd f k x j = f j := by simp [upd, h]
theorem updL_s (f : Nat → Int64) (k : Nat) (x : Int64) : vp_updL f k x k = x := by simp [vp_updL]
theorem updL_n (f : Nat → Int64) {k j : Nat} (x : Int64) (h : j ≠ k) : vp_updL f k x j = f j := by simp [vp_updL, h]
theorem fp_le (p : Nat → Bool) : ∀ n, fp p n ≤ n
  | 0 => Nat.le_refl _
  | n + 1 => by
    have := fp_le p n
    rw [fp]
    split <;> omega
theorem fp_all {p : Nat → Bool} : ∀ {n : Nat}, (∀ k, k < n → p k = true) → fp p n = n
  | 0, _ => rfl
  | n + 1, h => by rw [fp, if_pos ⟨fp_all (fun k hk => h k (by omega)), h n (by omega)⟩]
theorem fp_stop {p : Nat → Bool} {k : Nat} (h : ∀ j, j < k → p j = true) (hk : p k = false) : ∀ {n : Nat}, k ≤ n → k < n → fp p n = k
  | 0, _, h => by omega
  | n + 1, _, hn => by
    rcases Nat.lt_or_ge k n with q | q
    · have e := fp_stop h hk (n := n) (by omega) q
      rw [fp, if_neg (by rw [e]; omega), e]
    · have e : k = n := by omega
      subst e
      rw [fp, if_neg (by rw [hk]; simp), fp_all h]
theorem rs_none {cs : Nat → Int32} {k : Nat} (h : rs cs k = none) : ∀ {n : Nat}, k ≤ n → rs cs n = none
  | 0, hn => by
    have : k = 0 := by omega
    subst this; exact h
  | n + 1, hn => by
    rcases Nat.lt_or_ge n k with q | q
    · have : k = n + 1 := by omega
      subst this; exact h
    · rw [rs, rs_none h q]; rfl
theorem rs_some {cs : Nat → Int32} {n : Nat} {s : Nat × Nat} (h : rs cs n = some s) (k : Nat) (hk : k < n) : (rs cs (k + 1)).isSome = true := by
  cases e : rs cs (k + 1) with
  | some _ => rfl
  | none => rw [rs_none e (by omega : k + 1 ≤ n)] at h; cases h
theorem fsay_all {cs : Nat → Int32} {n : Nat} {s : Nat × Nat} (h : rs cs n = some s) : fsay cs n = n := fp_all (fun k hk => rs_some h k hk)
theorem fsay_stop {cs : Nat → Int32} {n k : Nat} {s : Nat × Nat} (h : rs cs k = some s) (hn : sp s (cs k) = none) (hk : k < n) : fsay cs n = k := fp_stop (fun j hj => rs_some h j hj) (by rw [rs, h]; simp [hn]) (Nat.le_of_lt hk) hk
theorem rs_go {cs : Nat → Int32} {k : Nat} {s s' : Nat × Nat} (h : rs cs k = some s) (hn : sp s (cs k) = some s') : rs cs (k + 1) = some s' := by rw [rs, h]; exact hn
