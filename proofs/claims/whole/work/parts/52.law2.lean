/-! the law: what holds at every row of its body; a call of the class, a call of the reference, a cell of the script -/
abbrev AX (u : Nat → Nat) : List Nat := (List.range 40).map u
abbrev AM (v : Nat → Nat) : List Nat := (List.range 20).map v
abbrev eX (E : Ev) (u : Nat → Nat) : Ev := (E.1, (fun q => q ∈ AX u), E.2.2)
abbrev eM (E : Ev) (v : Nat → Nat) : Ev := (E.1, (fun q => q ∈ AM v), E.2.2)
theorem ad_X (E : Ev) (u : Nat → Nat) (σ : Xc) : (wX E u σ).map (fun q => q.1) = AX u := rfl
theorem ad_M (E : Ev) (v : Nat → Nat) (τ : Mc) : (wM E v τ).map (fun q => q.1) = AM v := rfl
theorem wX_e (E : Ev) (u v : Nat → Nat) : wX (eX E u) v = wX E v := rfl
theorem wM_e (E : Ev) (u v : Nat → Nat) : wM (eM E u) v = wM E v := rfl
theorem Fx.cut {E E' : Ev} {U : State} {H : Heap} (h : Fx E U H) (h1 : E'.1 = E.1) (h2 : E'.2.2 = E.2.2) (hA : ∀ q, E'.A q → E.A q) : Fx E' U H := by
  obtain ⟨hK, hN, hZ, hT⟩ := h
  obtain ⟨a, b, c⟩ := E
  obtain ⟨a', b', c'⟩ := E'
  cases h1
  cases h2
  exact ⟨hK, hN, hZ.narrow hA, hT.narrow hA⟩
theorem n_perm {l : Launch} {E : Ev} {A : Nat → Prop} {X : Bx} {Q : State → Prop} {n : Nat} {ws ws' : va_W} {k9 s9 pc : Nat} {lv : List (Nat × Value)} {st : List Value} (p : ws.Perm ws') (k : NG l E A X Q n ws' k9 s9 pc lv st) : NG l E A X Q n ws k9 s9 pc lv st := fun H locs ls hP hD hS hl => by
  refine k H locs ls (fun j q hq => ?_) ?_ hS hl
  · obtain ⟨i, hi⟩ := List.getElem?_of_mem (p.mem_iff.mpr (List.mem_of_getElem? hq))
    exact hP i q hi
  · have h2 := va_D_nd.mp hD
    exact va_D_nd.mpr ⟨(p.map (fun q => q.1)).nodup_iff.mp h2.1, fun q hq => h2.2 q (p.mem_iff.mpr hq)⟩
theorem n_in {l : Launch} {E : Ev} {A : Nat → Prop} {X : Bx} {Q : State → Prop} {n : Nat} {ws : va_W} {k9 s9 pc : Nat} {lv : List (Nat × Value)} {st : List Value} (k : (ws.map (fun q => q.1)).Nodup → (∀ q ∈ ws, A q.1) → NG l E A X Q n ws k9 s9 pc lv st) : NG l E A X Q n ws k9 s9 pc lv st := fun H locs ls hP hD hS hl => k (va_D_nd.mp hD).1 (va_D_nd.mp hD).2 H locs ls hP hD hS hl
def LOk (E : Ev) (A : Nat → Prop) (X : Bx) (u v : Nat → Nat) (b L0 : Nat) (xs : Nat → Int32) : Prop :=
  NOk E A X cL_law 4 RL ret 9 342 60 2881 ∧ (va_X b L0 xs X.2.2.2.1 X.2.2.2.1.heap ∧ b < X.2.2.2.1.heap.size ∧ ¬ A b) ∧ (∀ q, A q → X.2.2.2.1.heap.size ≤ q) ∧ (Fx E X.2.2.2.1 X.2.2.2.1.heap ∧ ∀ q, A q → E.A q) ∧ (AX u ++ AM v).Nodup ∧ (∀ q ∈ AX u, A q) ∧ (∀ q ∈ AM v, A q)
abbrev lvL (b ux vm : Nat) (ii : Int32) : List (Nat × Value) := [(0, .ref b), (1, .ref ux), (2, .ref vm), (3, .int ii)]
section NL2
variable {l : Launch} {E : Ev} {A : Nat → Prop} {X : Bx} {Q : State → Prop} {u v : Nat → Nat} {b L0 : Nat} {xs : Nat → Int32}
theorem n_arg (pc : Nat) (P : LOk E A X u v b L0 xs) {ws : va_W} {k9 s9 ux vm : Nat} {ii w : Int32} {ic : Int} {st : List Value} (hin : vp_in (ii + w) L0) (d0 : decode cL_law pc = .ok (.aload_n 0, 1)) (d1 : decode cL_law (pc + 1) = .ok (.iload_n 3, 1)) (d2 : decode cL_law (pc + 2) = .ok (.iconst ic, 1)) (d3 : decode cL_law (pc + 3) = .ok (.iadd, 1)) (d4 : decode cL_law (pc + 4) = .ok (.iaload, 1)) (hw : Int32.ofInt ic = w) {q : Int32} (hq : xs (ii + w).toNatClampNeg = q)
    (kk : NG l E A X Q 4 ws k9 s9 (pc + 5) (lvL b ux vm ii) (.int q :: st)) : NG l E A X Q 4 ws k9 s9 pc (lvL b ux vm ii) st := by
  subst hq
  refine n_aload_n pc P.1 d0 rfl 0 rfl ?_
  refine n_iload_n (pc + 1) P.1 d1 rfl 3 rfl ?_
  refine n_iconst (pc + 2) P.1 d2 hw ?_
  refine n_iadd (pc + 3) P.1 d3 ?_
  exact fun H locs ls hP hD hS hl => va_sld P.1.1 P.1.2.1 P.2.1.1 P.2.1.2.1 P.2.1.2.2 hS hin d4 (kk H locs ls hP hD hS hl)
theorem n_slen (pc : Nat) (P : LOk E A X u v b L0 xs) {ws : va_W} {k9 s9 : Nat} {lv : List (Nat × Value)} {st : List Value} (hdg : decode cL_law pc = .ok (.arraylength, 1)) (kk : NG l E A X Q 4 ws k9 s9 (pc + 1) lv (.int (nI L0) :: st)) : NG l E A X Q 4 ws k9 s9 pc lv (.ref b :: st) :=
  fun H locs ls hP hD hS hl => va_slen P.1.1 P.1.2.1 P.2.1.1 P.2.1.2.1 P.2.1.2.2 hS hdg (kk H locs ls hP hD hS hl)
theorem n_sld (pc : Nat) (P : LOk E A X u v b L0 xs) {ws : va_W} {k9 s9 : Nat} {lv : List (Nat × Value)} {ii : Int32} {st : List Value} (hin : vp_in ii L0) (hdg : decode cL_law pc = .ok (.iaload, 1)) (kk : NG l E A X Q 4 ws k9 s9 (pc + 1) lv (.int (xs ii.toNatClampNeg) :: st)) : NG l E A X Q 4 ws k9 s9 pc lv (.int ii :: .ref b :: st) :=
  fun H locs ls hP hD hS hl => va_sld P.1.1 P.1.2.1 P.2.1.1 P.2.1.2.1 P.2.1.2.2 hS hin hdg (kk H locs ls hP hD hS hl)
theorem n_cX (pc : Nat) (P : LOk E A X u v b L0 xs) {σ : Xc} {τ : Mc} {val : Value} {Rp : Xc → Prop} {y : MethodName} {bc : ByteArray} {nb Fb Lb idx na : Nat} {rb : Option FieldType} {lv : List (Nat × Value)} {av st stk : List Value} (hM : Ctr l y bc nb rb Fb Lb (eX E u) (wX (eX E u) u) (.ref (u 0) :: av) σ (fun w x => w = some val ∧ Rp x))
    (h1 : Cond.methodLink RL idx y ∈ WT) (h2 : Cond.instanceMethod y ∈ WT) (h3 : Cond.selects RX5 y y ∈ WT) (h5 : Cond.code y bc nb rb ∈ WT)
    (hd : y.cls = RX5 ∧ y.cls ≠ "java/lang/invoke/MethodHandle" ∧ y.cls ≠ "java/lang/invoke/VarHandle" ∧ (parseMethodDescriptor y.desc).map (fun d => d.parameters.length) = some na) (hn : av.length = na) (hF : Fb + 1 ≤ 9) (hL : 8 + (nb + 11) + Lb ≤ 342) (hs : stk = av.reverse ++ .ref (u 0) :: st) (hst : (st.map fun w => w.category).sum ≤ 8) (hdg : decode cL_law pc = .ok (.invokevirtual idx, 3))
    (kk : ∀ x, Rp x → NG l E A X Q 4 (wX E u x ++ wM E v τ) 60 2881 (pc + 3) lv (val :: st)) : NG l E A X Q 4 (wX E u σ ++ wM E v τ) 60 2881 pc lv stk := by
  rw [wX_e] at hM
  obtain ⟨O, -, hA0, ⟨hFx, hEA⟩, hN, hX, hV⟩ := P
  have hN2 := List.nodup_append.mp hN
  refine n_callG pc O hM rfl (hFx.cut rfl rfl (fun q h => hEA q (hX q h))) hA0 hX (wM E v τ) (List.Perm.refl _) (fun p hp h => ?_) (fun p hp => ?_) h1 h2 h3 ki_X5 h5 hd hn (Nat.le_refl _) (Nat.le_refl _) hF hL 0 (rfl : (wX E u σ)[0]? = some (wXm u σ.1)) (rfl : vwCl[5]? = some (RX5, TX5, 12)) hs hst hdg (fun w x q => ?_)
  · exact hN2.2.2 _ h _ (by rw [← ad_M E v τ]; exact List.mem_map_of_mem hp) rfl
  · show p.1 ∈ AX u
    rw [← ad_X E u σ]
    exact List.mem_map_of_mem hp
  · obtain ⟨rfl, q2⟩ := q
    exact kk x q2
theorem n_cM (pc : Nat) (P : LOk E A X u v b L0 xs) {σ : Xc} {τ : Mc} {val : Value} {Rp : Mc → Prop} {y : MethodName} {bc : ByteArray} {nb Fb Lb idx na : Nat} {rb : Option FieldType} {lv : List (Nat × Value)} {av st stk : List Value} (hM : Ctr l y bc nb rb Fb Lb (eM E v) (wM (eM E v) v) (.ref (v 0) :: av) τ (fun w x => w = some val ∧ Rp x))
    (h1 : Cond.methodLink RL idx y ∈ WT) (h2 : Cond.instanceMethod y ∈ WT) (h3 : Cond.selects RX6 y y ∈ WT) (h5 : Cond.code y bc nb rb ∈ WT)
    (hd : y.cls = RX6 ∧ y.cls ≠ "java/lang/invoke/MethodHandle" ∧ y.cls ≠ "java/lang/invoke/VarHandle" ∧ (parseMethodDescriptor y.desc).map (fun d => d.parameters.length) = some na) (hn : av.length = na) (hF : Fb + 1 ≤ 9) (hL : 8 + (nb + 11) + Lb ≤ 342) (hs : stk = av.reverse ++ .ref (v 0) :: st) (hst : (st.map fun w => w.category).sum ≤ 8) (hdg : decode cL_law pc = .ok (.invokevirtual idx, 3))
    (kk : ∀ x, Rp x → NG l E A X Q 4 (wX E u σ ++ wM E v x) 60 2881 (pc + 3) lv (val :: st)) : NG l E A X Q 4 (wX E u σ ++ wM E v τ) 60 2881 pc lv stk := by
  rw [wM_e] at hM
  obtain ⟨O, -, hA0, ⟨hFx, hEA⟩, hN, hX, hV⟩ := P
  have hN2 := List.nodup_append.mp hN
  refine n_callG pc O hM rfl (hFx.cut rfl rfl (fun q h => hEA q (hV q h))) hA0 hV (wX E u σ) List.perm_append_comm (fun p hp h => ?_) (fun p hp => ?_) h1 h2 h3 ki_X6 h5 hd hn (Nat.le_refl _) (Nat.le_refl _) hF hL 0 (rfl : (wM E v τ)[0]? = some ((wM E v τ).head (by exact List.cons_ne_nil _ _))) (rfl : vwCl[6]? = some (RX6, TX6, 39)) hs hst hdg (fun w x q => ?_)
  · exact hN2.2.2 _ (by rw [← ad_X E u σ]; exact List.mem_map_of_mem hp) _ h rfl
  · show p.1 ∈ AM v
    rw [← ad_M E v τ]
    exact List.mem_map_of_mem hp
  · obtain ⟨rfl, q2⟩ := q
    exact n_perm List.perm_append_comm (kk x q2)
end NL2
