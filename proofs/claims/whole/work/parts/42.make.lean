/-! NG rows that make cells; constructors -/
section NH
variable {l : Launch} {E : Ev} {A : Nat → Prop} {X : Bx} {Q : State → Prop} {n : Nat} {cc : ByteArray} {own : String} {ret : Option FieldType} {F L C S : Nat} {ws : va_W} {k9 s9 : Nat} {lv : List (Nat × Value)} {st : List Value}
theorem tys_ne {E : Ev} {t0 : Nat} {cA : ClassId} {ty : FieldType} (h : E.tys[t0]? = some (cA, ty)) : ty = .int ∨ ty = .boolean ∨ ty = .long ∨ ty = .byte := by
  match t0, h with
  | 0, h => cases h; exact Or.inl rfl
  | 1, h => cases h; exact Or.inr (Or.inl rfl)
  | 2, h => cases h; exact Or.inr (Or.inr (Or.inl rfl))
  | 3, h => cases h; exact Or.inr (Or.inr (Or.inr rfl))
  | k + 4, h => cases h
theorem ra_uniq {U : State} {c c' : ClassId} {ty : FieldType} (ht : ty = .int ∨ ty = .boolean ∨ ty = .long ∨ ty = .byte) (h : va_RA U c ty) (h' : va_RA U c' ty) : c' = c := by
  rcases ht with rfl | rfl | rfl | rfl <;> exact Option.some.inj (h'.symm.trans h)
theorem n_newa (pc : Nat) (O : NOk E A X cc n own ret F L C S) {atype : ArrayType} {ty : FieldType} {cA : ClassId} (t0 : Nat) (hty : newarray.typeOf atype = ty) (ht0 : E.tys[t0]? = some (cA, ty)) (harr : Cond.arrayClass (newarray.typeOf atype) ∈ WT) (a0 : vp_A) {N : Nat} {x : Int32} (ha : ∀ cA : ClassId, vp_cell cA a0 = arrV cA N (fun _ => defaultValue ty)) (hx : ¬ x < 0) (hN : x.toNatClampNeg = N) (hb : N * componentBytes ty ≤ 536870912) (hC : k9 + 1 ≤ C) (hS9 : s9 + N ≤ S) (hdg : decode cc pc = .ok (.newarray atype, 2))
    (kk : ∀ q : Nat, NG l E A X Q n (ws ++ [(q, .inl (cA, a0))]) (k9 + 1) (s9 + N) (pc + 2) lv (.ref q :: st)) : NG l E A X Q n ws k9 s9 pc lv (.int x :: st) :=
  fun H locs ls hP hD hS hl => va_newa O.1 O.2.1 (atype := atype) (O.2.2.2.2.1 _ harr) hty O.2.2.2.2.2.1 hP hD hS O.2.2.2.2.2.2.2.2.2 (a0 := a0) ha hx hN hb (Nat.le_trans hC O.2.2.2.2.2.2.2.2.1.2.2.1) (Nat.le_trans hS9 O.2.2.2.2.2.2.2.2.1.2.2.2) hdg (fun q cA' H1 hK' hP' hD' hS' => by
    have e : cA' = cA := ra_uniq (tys_ne ht0) (O.2.2.2.2.2.1.2 t0 _ ht0).2 (hK'.2 E.tys.length (cA', ty) (by rw [List.getElem?_append_right (Nat.le_refl _), Nat.sub_self]; rfl)).2
    subst e
    exact kk q H1 locs ls hP' hD' hS' hl)
theorem n_new (pc : Nat) (O : NOk E A X cc n own ret F L C S) {Cn : String} {T : u_T} {N ci idx : Nat} (hin : ∀ w ∈ u_ws Cn T N, w ∈ WT) (ty : Nat → FieldType) (hty : ∀ k, k < N → parseFieldDescriptor (T k).2.2.1 = some (ty k)) (hcl : Cond.classLink own idx Cn ∈ WT) (hinst : Cond.instantiable Cn N ∈ WT) (hini : Cond.initialized Cn ∈ WT) (hc : vwCl[ci]? = some (Cn, T, N)) (fs : List Value) (hfs : ∀ j, j < N → defaultValue (ty j) = vp_V fs j) (hC : k9 + 1 ≤ C) (hS9 : s9 + N ≤ S) (hdg : decode cc pc = .ok (.new idx, 3))
    (kk : ∀ q : Nat, NG l E A X Q n (ws ++ [(q, .inr (ci, fs))]) (k9 + 1) (s9 + N) (pc + 3) lv (.ref q :: st)) : NG l E A X Q n ws k9 s9 pc lv st :=
  fun H locs ls hP hD hS hl => va_new O.1 O.2.1 O.2.2.2.2.1 hin ty hty O.2.2.2.1 (O.2.2.2.2.1 _ hcl) (O.2.2.2.2.1 _ hinst) (O.2.2.2.2.1 _ hini) O.2.2.2.2.2.1 hP hD hS O.2.2.2.2.2.2.2.2.2 hc hfs (Nat.le_trans hC O.2.2.2.2.2.2.2.2.1.2.2.1) (Nat.le_trans hS9 O.2.2.2.2.2.2.2.2.1.2.2.2) hdg (fun q H1 hP' hD' hS' => kk q H1 locs ls hP' hD' hS' hl)
theorem n_putF (pc : Nat) (O : NOk E A X cc n own ret F L C S) {Cn : String} {T : u_T} {N ci idx a : Nat} {fs : List Value} {v : Value} (hin : ∀ w ∈ u_ws Cn T N, w ∈ WT) {ty0 : Nat → FieldType} (hty : ∀ k, k < N → parseFieldDescriptor (T k).2.2.1 = some (ty0 k)) (hnm : ∀ a, a < N → ∀ b, b < N → a ≠ b → (T a).2.1 ≠ (T b).2.1) (ws' : va_W) (q0 : Nat) (he : ws[q0]? = some (a, .inr (ci, fs))) (hc : vwCl[ci]? = some (Cn, T, N)) (k : Nat) (hk : k < N)
    (hlink : Cond.fieldLink own idx (T k).1 (T k).2.1 (T k).2.2.1 ∈ WT) (hfin : (T k).2.2.2 = true) (hin2 : X.2.2.2.2.2.2.2.1.name = "<init>") (hdecl : (T k).1 = own) (hn : narrow (ty0 k) v = v) (hfit : fits (ty0 k) v = true) (hlen : k < fs.length) (hs : ws.set q0 (a, .inr (ci, fs.set k v)) = ws') (hdg : decode cc pc = .ok (.putfield idx, 3))
    (kk : NG l E A X Q n ws' k9 s9 (pc + 3) lv st) : NG l E A X Q n ws k9 s9 pc lv (v :: .ref a :: st) :=
  fun H locs ls hP hD hS hl => va_putF O.1 O.2.1 O.2.2.2.2.1 hin ty0 hty hnm O.2.2.2.1 O.2.2.2.2.2.1 hP hD hS q0 he hc k hk (O.2.2.2.2.1 _ hlink) (fun _ h9 => h9) hfin hin2 hdecl (hty k hk) hn hfit hlen hdg (fun H1 locs1 hP hD hS1 => kk H1 locs1 ls (by rw [← hs]; exact hP) (by rw [← hs]; exact hD) hS1 hl)
theorem n_obj (pc : Nat) (O : NOk E A X cc n own ret F L C S) {idx a : Nat} (hlink : Cond.methodLink own idx objectInit ∈ WT) (hF : 1 ≤ F) (hst : (st.map fun v => v.category).sum ≤ 8) (hL : 20 ≤ L) (hdg : decode cc pc = .ok (.invokespecial idx, 3)) (hcode : Cond.code objectInit ⟨#[0xb1]⟩ 1 none ∈ WT)
    (kk : NG l E A X Q n ws k9 s9 (pc + 3) lv st) : NG l E A X Q n ws k9 s9 pc lv (.ref a :: st) :=
  fun H locs ls hP hD hS hl => W.objInit O.1 O.2.1 O.2.2.2.1 (O.2.2.2.2.1 _ hlink) (O.2.2.2.2.1 _ km_Obj_init) (O.2.2.2.2.1 _ hcode) rfl (by rw [O.2.2.1]; exact hl.1) rfl hdg (Nat.le_trans hF O.2.2.2.2.2.2.2.2.1.1) (Nat.le_trans (by show 2 * 0 + (st.map fun v => v.category).sum + 12 ≤ 20; omega) (Nat.le_trans hL O.2.2.2.2.2.2.2.2.1.2.1)) (kk H locs ls hP hD hS hl)
end NH
