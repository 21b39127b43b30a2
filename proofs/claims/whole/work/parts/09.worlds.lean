/-! CONTENTS AND WORLDS: what the cells hold; the cells, read off a content -/
/-- a Saying: (words, readings, widest, narrowest, some), letters, negations, pluses, firstTruths, secondTruths, truths -/
abbrev Sc : Type := (Int32 × Int32 × Int32 × Int32 × Int64) × (Nat → Int32) × (Nat → Int32) × (Nat → Int32) × (Nat → Int64) × (Nat → Int64) × (Nat → Int64)
def wS (E : Ev) (a : Nat → Nat) (s : Sc) : va_W := [(a 0, .inr (3, [.ref (a 1), .ref (a 2), .ref (a 3), .ref (a 4), .ref (a 5), .ref (a 6), .int s.1.1, .int s.1.2.1, .int s.1.2.2.1, .int s.1.2.2.2.1, .long s.1.2.2.2.2])),
  (a 1, .inl (E.cI, 4, .inl s.2.1)), (a 2, .inl (E.cZ, 4, .inl s.2.2.1)), (a 3, .inl (E.cZ, 4, .inl s.2.2.2.1)), (a 4, .inl (E.cJ, 4, .inr (.inl s.2.2.2.2.1))), (a 5, .inl (E.cJ, 4, .inr (.inl s.2.2.2.2.2.1))), (a 6, .inl (E.cJ, 640, .inr (.inl s.2.2.2.2.2.2)))]
/-- Hearers: number, kinds, facts, values, changes -/
abbrev Hc : Type := Int32 × (Nat → Int32) × (Nat → Int32) × (Nat → Int32) × (Nat → Int32)
def wH (E : Ev) (a : Nat → Nat) (h : Hc) : va_W := [(a 0, .inr (0, [.ref (a 1), .ref (a 2), .ref (a 3), .ref (a 4), .int h.1])), (a 1, .inl (E.cI, 4, .inl h.2.1)), (a 2, .inl (E.cI, 4, .inl h.2.2.1)), (a 3, .inl (E.cI, 4, .inl h.2.2.2.1)), (a 4, .inl (E.cI, 4, .inl h.2.2.2.2))]
/-- Told: number, worlds -/
abbrev Tc : Type := Int32 × (Nat → Int32)
def wT (E : Ev) (a : Nat → Nat) (t : Tc) : va_W := [(a 0, .inr (4, [.ref (a 1), .int t.1])), (a 1, .inl (E.cI, 6, .inl t.2))]
/-- Page: length, codes -/
abbrev Pc : Type := Int32 × (Nat → Int32)
def wP (E : Ev) (a : Nat → Nat) (p : Pc) : va_W := [(a 0, .inr (2, [.ref (a 1), .int p.1])), (a 1, .inl (E.cI, 14, .inl p.2))]
/-- AsWasSaid: (world, rounds, timesSaid, timesAdded), page, secondSenses, saying, other, longer, hearers, told, the image's (isKept, world, rounds), hearers, told -/
abbrev Xc : Type := (Int32 × Int32 × Int32 × Int32) × Pc × (Nat → Int32) × Sc × Sc × Sc × Hc × Tc × (Int32 × Int32 × Int32) × Hc × Tc
def wXm (a : Nat → Nat) (m : Int32 × Int32 × Int32 × Int32) : Nat × va_E := (a 0, .inr (5, [.ref (a 1), .ref (a 3), .ref (a 4), .ref (a 11), .ref (a 18), .ref (a 25), .ref (a 30), .ref (a 32), .int m.1, .int m.2.1, .int m.2.2.1, .int m.2.2.2]))
def wXi (a : Nat → Nat) (m : Int32 × Int32 × Int32) : Nat × va_E := (a 32, .inr (1, [.ref (a 33), .ref (a 38), .int m.1, .int m.2.1, .int m.2.2]))
def wXn (E : Ev) (a : Nat → Nat) (f : Nat → Int32) : Nat × va_E := (a 3, .inl (E.cI, 6, .inl f))
/-- the addresses from k on -/
abbrev sh (a : Nat → Nat) (k : Nat) : Nat → Nat := fun i => a (k + i)
def wX (E : Ev) (a : Nat → Nat) (x : Xc) : va_W := wXm a x.1 :: (wP E (sh a 1) x.2.1 ++ (wXn E a x.2.2.1 :: (wS E (sh a 4) x.2.2.2.1 ++ (wS E (sh a 11) x.2.2.2.2.1 ++ (wS E (sh a 18) x.2.2.2.2.2.1 ++ (wH E (sh a 25) x.2.2.2.2.2.2.1 ++ (wT E (sh a 30) x.2.2.2.2.2.2.2.1 ++ (wXi a x.2.2.2.2.2.2.2.2.1 :: (wH E (sh a 33) x.2.2.2.2.2.2.2.2.2.1 ++ wT E (sh a 38) x.2.2.2.2.2.2.2.2.2.2)))))))))
/-- the reference: persistent ints (world, sayings, words, otherWords, hearers, rounds, told, asks, pageLength), persistent rows (senseOf, wordOf, joinOf, otherWord, otherJoin, kindOf, factOf, valueOf, changesOf, toldOf, page),
    reading a text (faultAt, isWhole, newWords, newWord, newJoin), laying (readings, soOf, value, joining), takesOf, (seedNow, h), image (isKept, keptWorld, keptHearers, keptRounds, keptTold, keptChanges, keptToldOf) -/
abbrev Mc : Type := (Int32 × Int32 × Int32 × Int32 × Int32 × Int32 × Int32 × Int32 × Int32) × ((Nat → Int32) × (Nat → Int32) × (Nat → Int32) × (Nat → Int32) × (Nat → Int32) × (Nat → Int32) × (Nat → Int32) × (Nat → Int32) × (Nat → Int32) × (Nat → Int32) × (Nat → Int32)) ×
  (Int32 × Int32 × Int32 × (Nat → Int32) × (Nat → Int32)) × (Int32 × (Nat → Int64) × (Nat → Int64) × (Nat → Int32)) × (Nat → Int32) × (Int64 × Int64) × (Int32 × Int32 × Int32 × Int32 × Int32 × (Nat → Int32) × (Nat → Int32))
def wM (E : Ev) (a : Nat → Nat) (x : Mc) : va_W := [(a 0, .inr (6, [.int x.1.1, .int x.1.2.1, .ref (a 1), .int x.1.2.2.1, .ref (a 2), .ref (a 3), .int x.1.2.2.2.1, .ref (a 4), .ref (a 5), .int x.1.2.2.2.2.1, .ref (a 6), .ref (a 7), .ref (a 8), .ref (a 9), .int x.1.2.2.2.2.2.1, .int x.1.2.2.2.2.2.2.1, .ref (a 10), .int x.1.2.2.2.2.2.2.2.1, .int x.1.2.2.2.2.2.2.2.2, .ref (a 11),
    .int x.2.2.1.1, .int x.2.2.1.2.1, .int x.2.2.1.2.2.1, .ref (a 12), .ref (a 13), .int x.2.2.2.1.1, .ref (a 14), .ref (a 15), .ref (a 16), .ref (a 17), .long x.2.2.2.2.2.1.1, .int x.2.2.2.2.2.2.1, .int x.2.2.2.2.2.2.2.1, .int x.2.2.2.2.2.2.2.2.1, .int x.2.2.2.2.2.2.2.2.2.1, .int x.2.2.2.2.2.2.2.2.2.2.1, .ref (a 18), .ref (a 19), .long x.2.2.2.2.2.1.2])),
  (a 1, .inl (E.cI, 6, .inl x.2.1.1)), (a 2, .inl (E.cI, 5, .inl x.2.1.2.1)), (a 3, .inl (E.cI, 4, .inl x.2.1.2.2.1)), (a 4, .inl (E.cI, 5, .inl x.2.1.2.2.2.1)), (a 5, .inl (E.cI, 4, .inl x.2.1.2.2.2.2.1)), (a 6, .inl (E.cI, 4, .inl x.2.1.2.2.2.2.2.1)), (a 7, .inl (E.cI, 4, .inl x.2.1.2.2.2.2.2.2.1)), (a 8, .inl (E.cI, 4, .inl x.2.1.2.2.2.2.2.2.2.1)), (a 9, .inl (E.cI, 4, .inl x.2.1.2.2.2.2.2.2.2.2.1)), (a 10, .inl (E.cI, 6, .inl x.2.1.2.2.2.2.2.2.2.2.2.1)), (a 11, .inl (E.cB, 14, .inl x.2.1.2.2.2.2.2.2.2.2.2.2)),
  (a 12, .inl (E.cI, 5, .inl x.2.2.1.2.2.2.1)), (a 13, .inl (E.cI, 5, .inl x.2.2.1.2.2.2.2)), (a 14, .inl (E.cJ, 640, .inr (.inl x.2.2.2.1.2.1))), (a 15, .inl (E.cJ, 4, .inr (.inl x.2.2.2.1.2.2.1))), (a 16, .inl (E.cI, 4, .inl x.2.2.2.1.2.2.2)), (a 17, .inl (E.cI, 4, .inl x.2.2.2.2.1)), (a 18, .inl (E.cI, 4, .inl x.2.2.2.2.2.2.2.2.2.2.2.1)), (a 19, .inl (E.cI, 6, .inl x.2.2.2.2.2.2.2.2.2.2.2.2))]
/-! posts -/
abbrev pI {T : Type} (q : Int32 → T → Prop) : Option Value → T → Prop := fun v s => ∃ r, v = some (.int r) ∧ q r s
abbrev pL {T : Type} (q : Int64 → T → Prop) : Option Value → T → Prop := fun v s => ∃ r, v = some (.long r) ∧ q r s
abbrev pV {T : Type} (q : T → Prop) : Option Value → T → Prop := fun v s => v = none ∧ q s
/-- the world anew, by places -/
theorem Wo.re {T T' : Type} {E : Ev} {w : T → va_W} {w' : T' → va_W} {σ : T} {σ' : T'} (is : List Nat) (hn : va_nd is = true) (hs : is.map (fun i => (w σ)[i]?) = (w' σ').map some) (H : Heap) (h : Wo E w σ H) : Wo E w' σ' H := by
  refine ⟨h.1.sub is ?_, h.2.sub is hn hs⟩
  have e : ∀ (l : List Nat) (m : va_W), l.map (fun i => (w σ)[i]?) = m.map some → l.filterMap (fun i => (w σ)[i]?) = m := by
    intro l
    induction l with
    | nil => intro m hm; cases m with
      | nil => rfl
      | cons a m => simp at hm
    | cons i l ih => intro m hm; cases m with
      | nil => simp at hm
      | cons a m =>
        simp only [List.map_cons, List.cons.injEq] at hm
        rw [List.filterMap_cons, hm.1]
        exact congrArg (a :: ·) (ih m hm.2)
  exact e is _ hs

theorem va_D_nd {A : Nat → Prop} {ws : va_W} : va_D A ws ↔ (ws.map (fun q => q.1)).Nodup ∧ ∀ q ∈ ws, A q.1 := by
  constructor
  · intro h
    refine ⟨?_, fun q hq => ?_⟩
    · refine List.pairwise_iff_getElem.mpr (fun i j hi hj hij e => ?_)
      rw [List.length_map] at hi hj
      rw [List.getElem_map, List.getElem_map] at e
      have := h.1 i j _ _ (List.getElem?_eq_getElem hi) (List.getElem?_eq_getElem hj) e
      omega
    · obtain ⟨i, hi⟩ := List.getElem?_of_mem hq
      exact h.2 i q hi
  · intro h
    refine ⟨fun i j p q hi hj e => ?_, fun k q hk => h.2 q (List.mem_of_getElem? hk)⟩
    obtain ⟨hi1, hi2⟩ := List.getElem?_eq_some_iff.mp hi
    obtain ⟨hj1, hj2⟩ := List.getElem?_eq_some_iff.mp hj
    have hp := List.pairwise_iff_getElem.mp h.1
    rcases Nat.lt_trichotomy i j with q1 | q1 | q1
    · exact absurd (by rw [List.getElem_map, List.getElem_map, hi2, hj2]; exact e) (hp i j (by rw [List.length_map]; exact hi1) (by rw [List.length_map]; exact hj1) q1)
    · exact q1
    · exact absurd (by rw [List.getElem_map, List.getElem_map, hi2, hj2]; exact e.symm) (hp j i (by rw [List.length_map]; exact hj1) (by rw [List.length_map]; exact hi1) q1)
theorem Wo.perm {T T' : Type} {E : Ev} {w : T → va_W} {w' : T' → va_W} {σ : T} {σ' : T'} (p : (w σ).Perm (w' σ')) {H : Heap} (h : Wo E w σ H) : Wo E w' σ' H := by
  refine ⟨fun k q hk => ?_, ?_⟩
  · obtain ⟨i, hi⟩ := List.getElem?_of_mem (p.mem_iff.mpr (List.mem_of_getElem? hk))
    exact h.1 i q hi
  · have h2 := va_D_nd.mp h.2
    exact va_D_nd.mpr ⟨(p.map (fun q => q.1)).nodup_iff.mp h2.1, fun q hq => h2.2 q (p.mem_iff.mpr hq)⟩
/-- two parts of a world change places -/
theorem Wo.swap {T T' : Type} {E : Ev} {w : T → va_W} {w' : T' → va_W} {σ : T} {σ' : T'} (u v R : va_W) (e : w σ = u ++ (v ++ R)) (e' : w' σ' = v ++ (u ++ R)) {H : Heap} (h : Wo E w σ H) : Wo E w' σ' H :=
  Wo.perm (by rw [e, e']; exact List.perm_append_comm_assoc u v R) h
