/-! the first state -/
def y00 : Sy := (0, fun _ => 0, fun _ => false, fun _ => false)
def h00 : Hr := (0, fun _ => 0, fun _ => 0, fun _ => 0, fun _ => 0)
def t00 : Tl := (0, fun _ => 0)
def S00 : AS := ((0, 0, 0, 0), (0, fun _ => 0), (fun k => k), y00, y00, h00, t00, (false, 0, 0, h00, t00))
theorem no_lt {P : Nat → Prop} : ∀ k, k < 0 → P k := fun k h => absurd h (Nat.not_lt_zero _)
theorem sn_first : SnW (sn9 6) (fun k => k) := fun k hk => ⟨sn9_ok 6 k hk, hk⟩
theorem h_first : HrW (0, (fun _ => 0), (fun _ => 0), (fun _ => 0), (fun _ => 0)) h00 := ⟨rfl, Nat.zero_le _, fun k h => absurd h (Nat.not_lt_zero _)⟩
theorem t_first : TlW (0, (fun _ => 0)) t00 := ⟨rfl, Nat.zero_le _, fun k h => absurd h (Nat.not_lt_zero _)⟩
theorem ym_first : YM (fun _ => 0) (fun _ => 0) y00 := ⟨Nat.zero_le _, fun k h => absurd h (Nat.not_lt_zero _), fun k h => absurd h (Nat.not_lt_zero _)⟩
theorem RM_first : RM mc0 S00 := ⟨⟨rfl, by decide⟩, rfl, rfl, ⟨rfl, by decide⟩, ⟨rfl, by decide, fun k h => absurd h (Nat.not_lt_zero _)⟩, (fun k hk => ⟨(by
  have h6 : k = 0 ∨ k = 1 ∨ k = 2 ∨ k = 3 ∨ k = 4 ∨ k = 5 := by omega
  rcases h6 with rfl | rfl | rfl | rfl | rfl | rfl <;> rfl), hk⟩), ⟨rfl, ym_first⟩, ⟨rfl, ym_first⟩, h_first, t_first, rfl, fun h => absurd h (by decide)⟩
theorem sy_first {z : Nat → Nat} : SyA ((0, 0, 0, 0, 0), (fun _ => 0), (fun _ => 0), (fun _ => 0), (fun _ => 0), (fun _ => 0), (fun _ => 0)) z y00 := ⟨⟨rfl, Nat.zero_le _, fun k h => absurd h (Nat.not_lt_zero _)⟩, rfl, fun r h => absurd h (Nat.not_lt_zero _), rfl, rfl, rfl⟩
theorem RX_first : RX xc0 S00 := ⟨⟨⟨rfl, by decide⟩, rfl, rfl, rfl, by decide⟩, ⟨rfl, by decide, fun k h => absurd h (Nat.not_lt_zero _)⟩, sn_first, sy_first, sy_first, h_first, t_first, ⟨rfl, ⟨rfl, by decide⟩, rfl, h_first, t_first⟩⟩
