/-! the states behind the calls that change something -/
def NS_letter (S : AS) (c : Int32) : AS := (S.1, N_letter S.2.1 c, S.2.2)
def NS_blank (S : AS) : AS := (S.1, (0, S.2.1.2), S.2.2)
def NS_say (S : AS) : AS := if isSay S.2.1.2 S.2.1.1 = true then ((S.1.1, S.1.2.1, S.1.2.2.1 + 1, S.1.2.2.2), (0, S.2.1.2), S.2.2.1, (pr S.2.1.2 S.2.1.1).2, S.2.2.2.1, S.2.2.2.2.2) else S
def NS_senses (S : AS) : AS := if isSen S.2.1.2 S.2.1.1 = true then (S.1, (0, S.2.1.2), zOf S.2.1.2, S.2.2.2) else S
def NS_set (S : AS) (p v : Int32) : AS := ((N_set S.1.1 p v, S.1.2), S.2)
def NS_hearer (S : AS) (k f v : Int32) : AS := (S.1, S.2.1, S.2.2.1, S.2.2.2.1, S.2.2.2.2.1, N_hearer S.2.2.2.2.2.1 k f v, S.2.2.2.2.2.2)
def NS_act (S : AS) (p : Int32) : AS := ((N_actW S.2.2.1 S.2.2.2.1 S.2.2.2.2.2.1 S.1.1 p, S.1.2), S.2.1, S.2.2.1, S.2.2.2.1, S.2.2.2.2.1, N_actH S.2.2.1 S.2.2.2.1 S.2.2.2.2.2.1 S.1.1 p, S.2.2.2.2.2.2)
def NS_round (S : AS) : AS := ((N_roundW S.2.2.1 S.2.2.2.1 S.2.2.2.2.2.1 S.1.1, N_roundR S.2.2.2.1 S.1.2.1, S.1.2.2), S.2.1, S.2.2.1, S.2.2.2.1, S.2.2.2.2.1, N_roundH S.2.2.1 S.2.2.2.1 S.2.2.2.2.2.1 S.1.1, S.2.2.2.2.2.2)
def NS_add (S : AS) (p : Int32) : AS := ((S.1.1, S.1.2.1, S.1.2.2.1, N_add S.2.2.2.1 S.1.2.2.2 p), S.2)
def NS_tell (S : AS) (p : Int32) : AS := (S.1, S.2.1, S.2.2.1, S.2.2.2.1, S.2.2.2.2.1, S.2.2.2.2.2.1, N_tell S.2.2.2.2.2.2.1 p, S.2.2.2.2.2.2.2)
def NS_then (S : AS) (p : Int32) : AS := (S.1, S.2.1, S.2.2.1, S.2.2.2.1, S.2.2.2.2.1, S.2.2.2.2.2.1, N_then S.2.2.2.2.2.2.1 p, S.2.2.2.2.2.2.2)
def NS_image (S : AS) : AS := (S.1, S.2.1, S.2.2.1, S.2.2.2.1, S.2.2.2.2.1, S.2.2.2.2.2.1, S.2.2.2.2.2.2.1, (true, S.1.1, S.1.2.1, S.2.2.2.2.2.1, S.2.2.2.2.2.2.1))
def A_restore (S : AS) : Int32 := if S.2.2.2.2.2.2.2.1 = true then nI S.2.2.2.2.2.2.2.2.1 else -103
def NS_restore (S : AS) : AS := if S.2.2.2.2.2.2.2.1 = true then ((S.2.2.2.2.2.2.2.2.1, S.2.2.2.2.2.2.2.2.2.1, S.1.2.2), S.2.1, S.2.2.1, S.2.2.2.1, S.2.2.2.2.1, S.2.2.2.2.2.2.2.2.2.2.1, S.2.2.2.2.2.2.2.2.2.2.2, S.2.2.2.2.2.2.2) else S
theorem isSen_n {cs : Nat → Int32} {n : Nat} (h : isSen cs n = true) : n = 6 ∧ ∀ k, k < 6 → cs k - 48 = nI (zOf cs k) ∧ zOf cs k < 6 := by
  unfold isSen at h
  simp only [Bool.and_eq_true, decide_eq_true_eq] at h
  obtain ⟨rfl, h2⟩ := h
  refine ⟨rfl, fun k hk => ?_⟩
  have hg : gse cs k = true := by
    cases e : gse cs k with
    | true => rfl
    | false =>
      have hle := fp_le (gse cs) k
      have hall : ∀ j, j < fp (gse cs) 6 → gse cs j = true := by
        have key : ∀ n j, j < fp (gse cs) n → gse cs j = true := by
          intro n
          induction n with
          | zero => intro j hj; rw [fp] at hj; omega
          | succ n ih =>
            intro j hj
            rw [fp] at hj
            split at hj
            · rename_i hc
              rcases Nat.lt_or_ge j n with q | q
              · exact ih j (by omega)
              · have : j = n := by omega
                subst this; exact hc.2
            · exact ih j hj
        exact key 6
      have := hall k (by unfold fsen at h2; omega)
      rw [this] at e; cases e
  unfold gse at hg
  simp only [Bool.and_eq_true, decide_eq_true_eq] at hg
  obtain ⟨j, hj, e, -⟩ := rng_le (n := 53) (by decide) ⟨Int32.le_trans (by decide) hg.2.1, hg.2.2⟩
  have h48 : 48 ≤ j := by rw [e] at hg; exact (nI_leI (a := 48) (by decide) (by omega)).mp hg.2.1
  unfold zOf
  rw [e]
  have : ∀ j, j ≤ 53 → 48 ≤ j → nI j - 48 = nI ((nI j).toNatClampNeg - 48) ∧ (nI j).toNatClampNeg - 48 < 6 := by decide +kernel
  exact this j hj h48
