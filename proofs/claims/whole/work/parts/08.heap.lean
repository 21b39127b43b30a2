/-! G rows over the heap, and calls -/
theorem Fx.call {E : Ev} {U : State} {g : JFrame} {mk : MethodId} {a : Array Value} (h : Fx E U U.heap) : Fx E (U.calling g mk a) (U.calling g mk a).heap :=
  ⟨va_K.moved (u := U) (U := U.calling g mk a) (Vm.Alike.refl U.vm) h.1, h.2.1.same rfl, va_Z.moved (u := U) (U := U.calling g mk a) (Vm.Alike.refl U.vm) h.2.2.1, va_T.moved (u := U) (U := U.calling g mk a) (Vm.Alike.refl U.vm) h.2.2.2⟩
theorem blindG {T : Type} {E : Ev} {w : T → va_W} {σ : T} {av : List Value} : FrameBlind (va_Pc av (fun U => Wo E w σ U.heap ∧ Fx E U U.heap)) := fun _ _ _ _ q => ⟨q.1, q.2.1, Fx.call q.2.2⟩
section GH
variable {T : Type} {l : Launch} {E : Ev} {w : T → va_W} {P : Option Value → T → Prop} {X : Bx} {n : Nat} {cc : ByteArray} {own : String} {ret : Option FieldType} {F L : Nat} {σ : T} {lv : List (Nat × Value)} {st : List Value}
theorem g_get (pc : Nat) (O : Ok E X cc n own ret F L) {C : String} {Tt : u_T} {N ci idx a : Nat} {fs : List Value} {v : Value} (hin : ∀ w ∈ u_ws C Tt N, w ∈ WT) (q0 : Nat) (he : (w σ)[q0]? = some (a, .inr (ci, fs))) (hc : vwCl[ci]? = some (C, Tt, N)) (k : Nat) (hk : k < N)
    (hlink : Cond.fieldLink own idx (Tt k).1 (Tt k).2.1 (Tt k).2.2.1 ∈ WT) (hv : fs[k]? = some v) (hdg : decode cc pc = .ok (.getfield idx, 3)) (kk : G l E w P X n σ (pc + 3) lv (v :: st)) : G l E w P X n σ pc lv (.ref a :: st) :=
  fun H locs ls hw hS hl => va_get O.1 O.2.1 O.2.2.2.2.1 hin O.2.2.2.1 O.2.2.2.2.2.1.1 hw.1 q0 he hc k hk (O.2.2.2.2.1 _ hlink) (fun _ h9 => h9) hv hdg (kk H locs ls hw hS hl)
theorem g_getN (pc : Nat) (O : Ok E X cc n own ret F L) {C host : String} {Tt : u_T} {N ci idx a : Nat} {fs : List Value} {v : Value} (hin : ∀ w ∈ u_ws C Tt N, w ∈ WT) (q0 : Nat) (he : (w σ)[q0]? = some (a, .inr (ci, fs))) (hc : vwCl[ci]? = some (C, Tt, N)) (k : Nat) (hk : k < N)
    (hlink : ∀ U, NW U → va_Nw (.fieldLinkNest own idx (Tt k).1 (Tt k).2.1 (Tt k).2.2.1 host) U) (hv : fs[k]? = some v) (hdg : decode cc pc = .ok (.getfield idx, 3)) (kk : G l E w P X n σ (pc + 3) lv (v :: st)) : G l E w P X n σ pc lv (.ref a :: st) :=
  fun H locs ls hw hS hl => va_getN O.1 O.2.1 O.2.2.2.2.1 hin O.2.2.2.1 O.2.2.2.2.2.1.1 hw.1 q0 he hc k hk (va_Nw.use rfl (hlink _ O.2.2.2.2.2.1.2.1)) (fun _ h9 => h9) hv hdg (kk H locs ls hw hS hl)
theorem g_put (pc : Nat) (O : Ok E X cc n own ret F L) {C : String} {Tt : u_T} {N ci idx a : Nat} {fs : List Value} {v : Value} (hin : ∀ w ∈ u_ws C Tt N, w ∈ WT) {ty0 : Nat → FieldType} (hty : ∀ k, k < N → parseFieldDescriptor (Tt k).2.2.1 = some (ty0 k)) (hnm : ∀ a, a < N → ∀ b, b < N → a ≠ b → (Tt a).2.1 ≠ (Tt b).2.1)
    (σ' : T) (q0 : Nat) (he : (w σ)[q0]? = some (a, .inr (ci, fs))) (hc : vwCl[ci]? = some (C, Tt, N)) (k : Nat) (hk : k < N)
    (hlink : Cond.fieldLink own idx (Tt k).1 (Tt k).2.1 (Tt k).2.2.1 ∈ WT) (hfin : (Tt k).2.2.2 = false) (hn : narrow (ty0 k) v = v) (hfit : fits (ty0 k) v = true) (hlen : k < fs.length) (hs : (w σ).set q0 (a, .inr (ci, fs.set k v)) = w σ')
    (hdg : decode cc pc = .ok (.putfield idx, 3)) (kk : G l E w P X n σ' (pc + 3) lv st) : G l E w P X n σ pc lv (v :: .ref a :: st) :=
  fun H locs ls hw hS hl => va_put O.1 O.2.1 O.2.2.2.2.1 hin ty0 hty hnm O.2.2.2.1 O.2.2.2.2.2.1.1 hw.1 hw.2 hS q0 he hc k hk (O.2.2.2.2.1 _ hlink) (fun _ h9 => h9) hfin (hty k hk) hn hfit hlen hdg (fun H1 locs1 hP hD hS1 => kk H1 locs1 ls ⟨by rw [← hs]; exact hP, by rw [← hs]; exact hD⟩ hS1 hl)
theorem g_putN (pc : Nat) (O : Ok E X cc n own ret F L) {C host : String} {Tt : u_T} {N ci idx a : Nat} {fs : List Value} {v : Value} (hin : ∀ w ∈ u_ws C Tt N, w ∈ WT) {ty0 : Nat → FieldType} (hty : ∀ k, k < N → parseFieldDescriptor (Tt k).2.2.1 = some (ty0 k)) (hnm : ∀ a, a < N → ∀ b, b < N → a ≠ b → (Tt a).2.1 ≠ (Tt b).2.1)
    (σ' : T) (q0 : Nat) (he : (w σ)[q0]? = some (a, .inr (ci, fs))) (hc : vwCl[ci]? = some (C, Tt, N)) (k : Nat) (hk : k < N)
    (hlink : ∀ U, NW U → va_Nw (.fieldLinkNest own idx (Tt k).1 (Tt k).2.1 (Tt k).2.2.1 host) U) (hfin : (Tt k).2.2.2 = false) (hn : narrow (ty0 k) v = v) (hfit : fits (ty0 k) v = true) (hlen : k < fs.length) (hs : (w σ).set q0 (a, .inr (ci, fs.set k v)) = w σ')
    (hdg : decode cc pc = .ok (.putfield idx, 3)) (kk : G l E w P X n σ' (pc + 3) lv st) : G l E w P X n σ pc lv (v :: .ref a :: st) :=
  fun H locs ls hw hS hl => va_putN O.1 O.2.1 O.2.2.2.2.1 hin ty0 hty hnm O.2.2.2.1 O.2.2.2.2.2.1.1 hw.1 hw.2 hS q0 he hc k hk (va_Nw.use rfl (hlink _ O.2.2.2.2.2.1.2.1)) (fun _ h9 => h9) hfin (hty k hk) hn hfit hlen hdg (fun H1 locs1 hP hD hS1 => kk H1 locs1 ls ⟨by rw [← hs]; exact hP, by rw [← hs]; exact hD⟩ hS1 hl)
/-- an index -/
theorem ix_in {i : Int32} {j N : Nat} (hi : i = nI j) (hj : j < N) (hN : N < 2 ^ 31) : vp_in i N ∧ i.toNatClampNeg = j := by
  subst hi
  exact ⟨vp_in_nI hj hN, nI_clamp (Nat.lt_trans hj hN)⟩
theorem g_iald (pc : Nat) (O : Ok E X cc n own ret F L) {a N : Nat} {f : Nat → Int32} {i : Int32} (q0 j : Nat) (ha : (w σ)[q0]? = some (a, .inl (E.cI, N, .inl f))) (hi : i = nI j) (hj : j < N) (hN : N < 2 ^ 31) (hdg : decode cc pc = .ok (.iaload, 1)) (kk : G l E w P X n σ (pc + 1) lv (.int (f j) :: st)) : G l E w P X n σ pc lv (.int i :: .ref a :: st) :=
  fun H locs ls hw hS hl => va_iald O.1 O.2.1 O.2.2.2.2.2.1.1 hw.1 q0 0 ha rfl (ix_in hi hj hN).1 hdg (by rw [(ix_in hi hj hN).2]; exact kk H locs ls hw hS hl)
theorem g_zald (pc : Nat) (O : Ok E X cc n own ret F L) {a N : Nat} {f : Nat → Int32} {i : Int32} (q0 j : Nat) (ha : (w σ)[q0]? = some (a, .inl (E.cZ, N, .inl f))) (hi : i = nI j) (hj : j < N) (hN : N < 2 ^ 31) (hdg : decode cc pc = .ok (.baload, 1)) (kk : G l E w P X n σ (pc + 1) lv (.int (f j) :: st)) : G l E w P X n σ pc lv (.int i :: .ref a :: st) :=
  fun H locs ls hw hS hl => va_zald O.1 O.2.1 O.2.2.2.2.2.1.1 hw.1 q0 1 ha rfl (ix_in hi hj hN).1 hdg (by rw [(ix_in hi hj hN).2]; exact kk H locs ls hw hS hl)
theorem g_bald (pc : Nat) (O : Ok E X cc n own ret F L) {a N : Nat} {f : Nat → Int32} {i : Int32} (q0 j : Nat) (ha : (w σ)[q0]? = some (a, .inl (E.cB, N, .inl f))) (hi : i = nI j) (hj : j < N) (hN : N < 2 ^ 31) (hdg : decode cc pc = .ok (.baload, 1)) (kk : G l E w P X n σ (pc + 1) lv (.int (f j) :: st)) : G l E w P X n σ pc lv (.int i :: .ref a :: st) :=
  fun H locs ls hw hS hl => va_bald O.1 O.2.1 O.2.2.2.2.2.1.1 hw.1 q0 3 ha rfl (ix_in hi hj hN).1 hdg (by rw [(ix_in hi hj hN).2]; exact kk H locs ls hw hS hl)
theorem g_lald (pc : Nat) (O : Ok E X cc n own ret F L) {a N : Nat} {f : Nat → Int64} {i : Int32} (q0 j : Nat) (ha : (w σ)[q0]? = some (a, .inl (E.cJ, N, .inr (.inl f)))) (hi : i = nI j) (hj : j < N) (hN : N < 2 ^ 31) (hdg : decode cc pc = .ok (.laload, 1)) (kk : G l E w P X n σ (pc + 1) lv (.long (f j) :: st)) : G l E w P X n σ pc lv (.int i :: .ref a :: st) :=
  fun H locs ls hw hS hl => va_lald O.1 O.2.1 O.2.2.2.2.2.1.1 hw.1 q0 2 ha rfl (ix_in hi hj hN).1 hdg (by rw [(ix_in hi hj hN).2]; exact kk H locs ls hw hS hl)
theorem g_alen (pc : Nat) (O : Ok E X cc n own ret F L) {a : Nat} {cA : ClassId} {x : vp_A} {ty : FieldType} {v : Int32} (q0 t0 : Nat) (ha : (w σ)[q0]? = some (a, .inl (cA, x))) (ht : E.tys[t0]? = some (cA, ty)) (hv : Int32.ofNat x.1 = v) (hdg : decode cc pc = .ok (.arraylength, 1)) (kk : G l E w P X n σ (pc + 1) lv (.int v :: st)) : G l E w P X n σ pc lv (.ref a :: st) :=
  fun H locs ls hw hS hl => va_alen O.1 O.2.1 O.2.2.2.2.2.1.1 hw.1 q0 t0 ha ht hv hdg (kk H locs ls hw hS hl)
theorem g_iast (pc : Nat) (O : Ok E X cc n own ret F L) {a N : Nat} {f : Nat → Int32} {i x : Int32} (σ' : T) (q0 j : Nat) (ha : (w σ)[q0]? = some (a, .inl (E.cI, N, .inl f))) (hi : i = nI j) (hj : j < N) (hN : N < 2 ^ 31) (hs : (w σ).set q0 (a, .inl (E.cI, N, .inl (upd f j x))) = w σ') (hdg : decode cc pc = .ok (.iastore, 1)) (kk : G l E w P X n σ' (pc + 1) lv st) : G l E w P X n σ pc lv (.int x :: .int i :: .ref a :: st) :=
  fun H locs ls hw hS hl => va_iast O.1 O.2.1 O.2.2.2.2.2.1.1 hw.1 hw.2 hS q0 0 ha rfl (ix_in hi hj hN).1 hdg (fun H1 locs1 hP hD hS1 => by rw [(ix_in hi hj hN).2, hs] at hP hD; exact kk H1 locs1 ls ⟨hP, hD⟩ hS1 hl)
theorem g_zast (pc : Nat) (O : Ok E X cc n own ret F L) {a N : Nat} {f : Nat → Int32} {i x : Int32} (σ' : T) (q0 j : Nat) (ha : (w σ)[q0]? = some (a, .inl (E.cZ, N, .inl f))) (hi : i = nI j) (hj : j < N) (hN : N < 2 ^ 31) (hx : vp_nar .boolean x = x) (hs : (w σ).set q0 (a, .inl (E.cZ, N, .inl (upd f j x))) = w σ') (hdg : decode cc pc = .ok (.bastore, 1)) (kk : G l E w P X n σ' (pc + 1) lv st) : G l E w P X n σ pc lv (.int x :: .int i :: .ref a :: st) :=
  fun H locs ls hw hS hl => va_zast O.1 O.2.1 O.2.2.2.2.2.1.1 hw.1 hw.2 hS q0 1 ha rfl (ix_in hi hj hN).1 hdg (fun H1 locs1 hP hD hS1 => by rw [(ix_in hi hj hN).2, hx, hs] at hP hD; exact kk H1 locs1 ls ⟨hP, hD⟩ hS1 hl)
theorem g_bast (pc : Nat) (O : Ok E X cc n own ret F L) {a N : Nat} {f : Nat → Int32} {i x : Int32} (σ' : T) (q0 j : Nat) (ha : (w σ)[q0]? = some (a, .inl (E.cB, N, .inl f))) (hi : i = nI j) (hj : j < N) (hN : N < 2 ^ 31) (hx : vp_nar .byte x = x) (hs : (w σ).set q0 (a, .inl (E.cB, N, .inl (upd f j x))) = w σ') (hdg : decode cc pc = .ok (.bastore, 1)) (kk : G l E w P X n σ' (pc + 1) lv st) : G l E w P X n σ pc lv (.int x :: .int i :: .ref a :: st) :=
  fun H locs ls hw hS hl => va_bast O.1 O.2.1 O.2.2.2.2.2.1.1 hw.1 hw.2 hS q0 3 ha rfl (ix_in hi hj hN).1 hdg (fun H1 locs1 hP hD hS1 => by rw [(ix_in hi hj hN).2, hx, hs] at hP hD; exact kk H1 locs1 ls ⟨hP, hD⟩ hS1 hl)
theorem g_last (pc : Nat) (O : Ok E X cc n own ret F L) {a N : Nat} {f : Nat → Int64} {i : Int32} {x : Int64} (σ' : T) (q0 j : Nat) (ha : (w σ)[q0]? = some (a, .inl (E.cJ, N, .inr (.inl f)))) (hi : i = nI j) (hj : j < N) (hN : N < 2 ^ 31) (hs : (w σ).set q0 (a, .inl (E.cJ, N, .inr (.inl (vp_updL f j x)))) = w σ') (hdg : decode cc pc = .ok (.lastore, 1)) (kk : G l E w P X n σ' (pc + 1) lv st) : G l E w P X n σ pc lv (.long x :: .int i :: .ref a :: st) :=
  fun H locs ls hw hS hl => va_last O.1 O.2.1 O.2.2.2.2.2.1.1 hw.1 hw.2 hS q0 2 ha rfl (ix_in hi hj hN).1 hdg (fun H1 locs1 hP hD hS1 => by rw [(ix_in hi hj hN).2, hs] at hP hD; exact kk H1 locs1 ls ⟨hP, hD⟩ hS1 hl)
/-- the static row WORLDS_OF_FACT -/
theorem g_gets (pc : Nat) (O : Ok E X cc n RX5 ret F L) (hdg : decode cc pc = .ok (.getstatic 287, 3)) (kk : G l E w P X n σ (pc + 3) lv (.ref E.t :: st)) : G l E w P X n σ pc lv st :=
  fun H locs ls hw hS hl => va_gets O.1 O.2.1 O.2.2.2.2.2.1.2.2.1 hS O.2.2.2.1 (O.2.2.2.2.1 _ kf_X5_287) (fun _ h9 => h9) hdg (kk H locs ls hw hS hl)
theorem g_tl (pc : Nat) (O : Ok E X cc n own ret F L) {i : Int32} (j : Nat) (hi : i = nI j) (hj : j < 6) (hdg : decode cc pc = .ok (.laload, 1)) (kk : G l E w P X n σ (pc + 1) lv (.long (Wf j) :: st)) : G l E w P X n σ pc lv (.int i :: .ref E.t :: st) :=
  fun H locs ls hw hS hl => va_tl O.1 O.2.1 O.2.2.2.2.2.1.2.2.2 hS (ix_in hi hj (by decide)).1 (v := .long (Wf j)) (by rw [(ix_in hi hj (by decide)).2]) hdg (kk H locs ls hw hS hl)
theorem g_tlen (pc : Nat) (O : Ok E X cc n own ret F L) (hdg : decode cc pc = .ok (.arraylength, 1)) (kk : G l E w P X n σ (pc + 1) lv (.int 6 :: st)) : G l E w P X n σ pc lv (.ref E.t :: st) :=
  fun H locs ls hw hS hl => va_tlen O.1 O.2.1 O.2.2.2.2.2.1.2.2.2 hS (v := 6) rfl hdg (kk H locs ls hw hS hl)
end GH
section GC
variable {T T' : Type} {l : Launch} {E : Ev} {w : T → va_W} {w' : T' → va_W} {P : Option Value → T → Prop} {P' : Option Value → T' → Prop} {X : Bx} {n : Nat} {cc : ByteArray} {own : String} {ret : Option FieldType} {F L : Nat} {σ : T} {σ' : T'} {lv : List (Nat × Value)} {st stk av : List Value}
  {y : MethodName} {b : ByteArray} {nb Fb Lb idx a na : Nat} {rb : Option FieldType}
theorem g_run (pc : Nat) (back : T' → T) (hb : ∀ v s H, P' v s → Wo E w' s H → Wo E w (back s) H) (kk : ∀ v s, P' v s → G l E w P X n (back s) (pc + 3) lv (v.toList ++ st)) {H : Heap} {locs : List Loc} {ls : Array Slot} (hS : va_S E.A X.2.2.2.1.heap H locs) (hl : lv_has ls n lv)
    (hr : va_Run X.1 l X.2.1 X.2.2.1 X.2.2.2.1 X.2.2.2.2.1 X.2.2.2.2.2.1 X.2.2.2.2.2.2.1 X.2.2.2.2.2.2.2.1 X.2.2.2.2.2.2.2.2 H locs 0 0 0 0 (F0 X.2.2.2.2.1 pc ls stk) st (QG E w' P' #[]) E.A) :
    W X.1 l X.2.1 X.2.2.1 X.2.2.2.1 X.2.2.2.2.1 X.2.2.2.2.2.1 X.2.2.2.2.2.2.1 X.2.2.2.2.2.2.2.1 X.2.2.2.2.2.2.2.2 H locs 0 0 (MQ X.2.2.2.2.2.2.1 (QG E w P) X.2.2.2.2.2.1 X.2.2.2.1 0 0 E.A) (F0 X.2.2.2.2.1 pc ls stk) := by
  intro T0 hT X0
  obtain ⟨v, st₀, t, T', Lq, h0, X', hL, e1, e2, ⟨⟨v', s', hv, hp, hwo⟩, hz, hk⟩, hst⟩ := hr T0 hT X0
  cases hv
  rw [h0] at hz hk
  obtain ⟨t2, a1, b1⟩ := kk _ s' hp T'.heap (locs ++ Lq) ls (by rw [e1]; exact hb _ _ _ hp hwo)
    ⟨Nat.le_trans hS.1 (by rw [e1]; exact hz), fun q h1 h2 => by rw [e1, hk q (Nat.lt_of_lt_of_le h1 hS.1) h2]; exact hS.2.1 q h1 h2, fun q hq => by
      rcases List.mem_append.mp hq with h | h
      · exact hS.2.2 q h
      · exact hL q h⟩ hl T' rfl X'
  exact ⟨t2, hst t2 a1, b1⟩
theorem g_callV (pc : Nat) (O : Ok E X cc n own ret F L) (hM : Ctr l y b nb rb Fb Lb E w' (.ref a :: av) σ' P') {C : String} {Tt : u_T} {N ci : Nat} {fs : List Value}
    (h1 : Cond.methodLink own idx y ∈ WT) (h2 : Cond.instanceMethod y ∈ WT) (h3 : Cond.selects C y y ∈ WT) (h4 : Cond.initialized C ∈ WT) (h5 : Cond.code y b nb rb ∈ WT)
    (hd : y.cls = C ∧ y.cls ≠ "java/lang/invoke/MethodHandle" ∧ y.cls ≠ "java/lang/invoke/VarHandle" ∧ (parseMethodDescriptor y.desc).map (fun d => d.parameters.length) = some na) (hna : av.length = na) (hF : Fb + 1 ≤ F) (hL : 8 + (nb + 11) + Lb ≤ L)
    (lens : ∀ H, Wo E w σ H → Wo E w' σ' H) (q0 : Nat) (he : (w' σ')[q0]? = some (a, .inr (ci, fs))) (hc : vwCl[ci]? = some (C, Tt, N)) (back : T' → T) (hb : ∀ v s H, P' v s → Wo E w' s H → Wo E w (back s) H) (hs : stk = av.reverse ++ .ref a :: st) (hst : (st.map fun v => v.category).sum ≤ 8)
    (hdg : decode cc pc = .ok (.invokevirtual idx, 3)) (kk : ∀ v s, P' v s → G l E w P X n (back s) (pc + 3) lv (v.toList ++ st)) : G l E w P X n σ pc lv stk := by
  intro H locs ls hw hS hl
  have hw' := lens H hw
  exact g_run pc back hb kk hS hl (va_runV (As := av) (rest := st) (C := C) (b := a) ⟨O.1, O.2.1, O.2.2.1, O.2.2.2.1, O.2.2.2.2.1⟩ hM (cwV na O.2.2.2.2.1 (goodV h1 h2 h3 h4 h5) rfl rfl rfl hd ⟨Nat.le_trans hF O.2.2.2.2.2.2.2.2.1, Nat.le_trans hL O.2.2.2.2.2.2.2.2.2⟩) ⟨blindG, va_recv O.2.2.2.2.2.1.1 hw'.1 hc he, fun U hU hW => ⟨rfl, by rw [hU]; exact hw', Fx.go O.2.2.2.2.2.1 hS hU hW⟩⟩ rfl hna hl.1 hs (lv_room hst) hdg ⟨Nat.zero_le _, Nat.zero_le _⟩)
theorem g_callS (pc : Nat) (O : Ok E X cc n own ret F L) (hM : Ctr l y b nb rb Fb Lb E w' av σ' P')
    (h1 : Cond.methodLink own idx y ∈ WT) (h2 : Cond.static y ∈ WT) (h4 : Cond.initialized own ∈ WT) (h5 : Cond.code y b nb rb ∈ WT)
    (hd : y.cls = own ∧ y.cls ≠ "java/lang/invoke/MethodHandle" ∧ y.cls ≠ "java/lang/invoke/VarHandle" ∧ (parseMethodDescriptor y.desc).map (fun d => d.parameters.length) = some na) (hna : av.length = na) (hF : Fb + 1 ≤ F) (hL : 8 + (nb + 11) + Lb ≤ L)
    (lens : ∀ H, Wo E w σ H → Wo E w' σ' H) (back : T' → T) (hb : ∀ v s H, P' v s → Wo E w' s H → Wo E w (back s) H) (hs : stk = av.reverse ++ st) (hst : (st.map fun v => v.category).sum ≤ 8)
    (hdg : decode cc pc = .ok (.invokestatic idx, 3)) (kk : ∀ v s, P' v s → G l E w P X n (back s) (pc + 3) lv (v.toList ++ st)) : G l E w P X n σ pc lv stk := by
  intro H locs ls hw hS hl
  have hw' := lens H hw
  exact g_run pc back hb kk hS hl (va_runS (As := av) (rest := st) ⟨O.1, O.2.1, O.2.2.1, O.2.2.2.1, O.2.2.2.2.1⟩ hM (cwS na O.2.2.2.2.1 (goodS h1 h2 h4 h5) rfl rfl rfl hd ⟨Nat.le_trans hF O.2.2.2.2.2.2.2.2.1, Nat.le_trans hL O.2.2.2.2.2.2.2.2.2⟩) ⟨blindG, fun U hU hW => ⟨rfl, by rw [hU]; exact hw', Fx.go O.2.2.2.2.2.1 hS hU hW⟩⟩ rfl hna hl.1 hs (lv_room hst) hdg ⟨Nat.zero_le _, Nat.zero_le _⟩)
/-- a static method of another class of the nest -/
theorem g_callX (pc : Nat) (O : Ok E X cc n own ret F L) (hM : Ctr l y b nb rb Fb Lb E w' av σ' P')
    (h1 : Cond.methodLink own idx y ∈ WT) (h2 : Cond.static y ∈ WT) (h4 : Cond.initialized y.cls ∈ WT) (h5 : Cond.code y b nb rb ∈ WT)
    (hd : y.cls ≠ "java/lang/invoke/MethodHandle" ∧ y.cls ≠ "java/lang/invoke/VarHandle" ∧ (parseMethodDescriptor y.desc).map (fun d => d.parameters.length) = some na) (hna : av.length = na) (hF : Fb + 1 ≤ F) (hL : 8 + (nb + 11) + Lb ≤ L)
    (lens : ∀ H, Wo E w σ H → Wo E w' σ' H) (back : T' → T) (hb : ∀ v s H, P' v s → Wo E w' s H → Wo E w (back s) H) (hs : stk = av.reverse ++ st) (hst : (st.map fun v => v.category).sum ≤ 8)
    (hdg : decode cc pc = .ok (.invokestatic idx, 3)) (kk : ∀ v s, P' v s → G l E w P X n (back s) (pc + 3) lv (v.toList ++ st)) : G l E w P X n σ pc lv stk := by
  intro H locs ls hw hS hl
  have hw' := lens H hw
  exact g_run pc back hb kk hS hl (va_runS (As := av) (rest := st) ⟨O.1, O.2.1, O.2.2.1, O.2.2.2.1, O.2.2.2.2.1⟩ hM ⟨callB_of na O.2.2.2.2.1 (goodC h5) rfl rfl rfl (O.2.2.2.2.1 _ h4) (O.2.2.2.2.1 _ h1) hd ⟨Nat.le_trans hF O.2.2.2.2.2.2.2.2.1, Nat.le_trans hL O.2.2.2.2.2.2.2.2.2⟩, O.2.2.2.2.1 _ h2⟩ ⟨blindG, fun U hU hW => ⟨rfl, by rw [hU]; exact hw', Fx.go O.2.2.2.2.2.1 hS hU hW⟩⟩ rfl hna hl.1 hs (lv_room hst) hdg ⟨Nat.zero_le _, Nat.zero_le _⟩)
theorem g_callN (pc : Nat) (O : Ok E X cc n own ret F L) {host : String} (hM : Ctr l y b nb rb Fb Lb E w' av σ' P')
    (h1 : ∀ U, NW U → va_Nw (.methodLinkNest own idx y host) U) (h2 : Cond.static y ∈ WT) (h4 : Cond.initialized y.cls ∈ WT) (h5 : Cond.code y b nb rb ∈ WT)
    (hd : y.cls ≠ "java/lang/invoke/MethodHandle" ∧ y.cls ≠ "java/lang/invoke/VarHandle" ∧ (parseMethodDescriptor y.desc).map (fun d => d.parameters.length) = some na) (hna : av.length = na) (hF : Fb + 1 ≤ F) (hL : 8 + (nb + 11) + Lb ≤ L)
    (lens : ∀ H, Wo E w σ H → Wo E w' σ' H) (back : T' → T) (hb : ∀ v s H, P' v s → Wo E w' s H → Wo E w (back s) H) (hs : stk = av.reverse ++ st) (hst : (st.map fun v => v.category).sum ≤ 8)
    (hdg : decode cc pc = .ok (.invokestatic idx, 3)) (kk : ∀ v s, P' v s → G l E w P X n (back s) (pc + 3) lv (v.toList ++ st)) : G l E w P X n σ pc lv stk := by
  intro H locs ls hw hS hl
  have hw' := lens H hw
  exact g_run pc back hb kk hS hl (va_runSN (As := av) (rest := st) ⟨O.1, O.2.1, O.2.2.1, O.2.2.2.1, O.2.2.2.2.1⟩ hM ⟨va_cnB na O.2.2.2.2.1 (goodC h5) rfl rfl rfl (h1 _ O.2.2.2.2.2.1.2.1) (O.2.2.2.2.1 _ h4) hd ⟨Nat.le_trans hF O.2.2.2.2.2.2.2.2.1, Nat.le_trans hL O.2.2.2.2.2.2.2.2.2⟩, O.2.2.2.2.1 _ h2, trivial⟩ ⟨blindG, fun U hU hW => ⟨rfl, by rw [hU]; exact hw', Fx.go O.2.2.2.2.2.1 hS hU hW⟩⟩ rfl hna hl.1 hs (lv_room hst) hdg ⟨Nat.zero_le _, Nat.zero_le _⟩)
end GC
