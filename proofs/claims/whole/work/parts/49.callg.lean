section NL
variable {l : Launch} {E : Ev} {A : Nat → Prop} {X : Bx} {Q : State → Prop} {n : Nat} {cc : ByteArray} {own : String} {ret : Option FieldType} {F L C S : Nat} {ws : va_W} {k9 s9 : Nat} {lv : List (Nat × Value)} {st stk av : List Value}
theorem n_callG {T' : Type} (pc : Nat) (O : NOk E A X cc n own ret F L C S) {E' : Ev} {w' : T' → va_W} {σ' : T'} {P' : Option Value → T' → Prop} {y : MethodName} {b : ByteArray} {nb Fb Lb idx a na : Nat} {rb : Option FieldType} (hM : Ctr l y b nb rb Fb Lb E' w' (.ref a :: av) σ' P') (hE : E'.1 = E.1) (hFx : Fx E' X.2.2.2.1 X.2.2.2.1.heap) (hA0 : ∀ q, A q → X.2.2.2.1.heap.size ≤ q) (hsub : ∀ q, E'.A q → A q)
    (wr : va_W) (hws : ws.Perm (w' σ' ++ wr)) (hr : ∀ p ∈ wr, ¬ E'.A p.1) (hin : ∀ p ∈ w' σ', E'.A p.1)
    {Cn : String} {Tt : u_T} {N ci : Nat} {fs : List Value}
    (h1 : Cond.methodLink own idx y ∈ WT) (h2 : Cond.instanceMethod y ∈ WT) (h3 : Cond.selects Cn y y ∈ WT) (h4 : Cond.initialized Cn ∈ WT) (h5 : Cond.code y b nb rb ∈ WT)
    (hd : y.cls = Cn ∧ y.cls ≠ "java/lang/invoke/MethodHandle" ∧ y.cls ≠ "java/lang/invoke/VarHandle" ∧ (parseMethodDescriptor y.desc).map (fun d => d.parameters.length) = some na) (hna : av.length = na) (hk9 : k9 ≤ C) (hs9 : s9 ≤ S) (hF : Fb + 1 ≤ F) (hL : 8 + (nb + 11) + Lb ≤ L)
    (q0 : Nat) (he : (w' σ')[q0]? = some (a, .inr (ci, fs))) (hc : vwCl[ci]? = some (Cn, Tt, N)) (hs : stk = av.reverse ++ .ref a :: st) (hst : (st.map fun v => v.category).sum ≤ 8)
    (hdg : decode cc pc = .ok (.invokevirtual idx, 3)) (kk : ∀ v s, P' v s → NG l E A X Q n (w' s ++ wr) k9 s9 (pc + 3) lv (v.toList ++ st)) : NG l E A X Q n ws k9 s9 pc lv stk := by
  intro H locs ls hP hD hS hl
  have hD2 := va_D_nd.mp hD
  have hPp : ∀ k q, (w' σ' ++ wr)[k]? = some q → q ∈ ws := fun k q hq => hws.mem_iff.mpr (List.mem_of_getElem? hq)
  have hPw : va_P E'.1 vwCl (w' σ') H := fun k q hq => by
    obtain ⟨i, hi⟩ := List.getElem?_of_mem (hws.mem_iff.mpr (List.mem_append_left wr (List.mem_of_getElem? hq)))
    rw [hE]; exact hP i q hi
  have hPr : va_P E.1 vwCl wr H := fun k q hq => by
    obtain ⟨i, hi⟩ := List.getElem?_of_mem (hws.mem_iff.mpr (List.mem_append_right (w' σ') (List.mem_of_getElem? hq)))
    exact hP i q hi
  have hnd : ((w' σ' ++ wr).map (fun q => q.1)).Nodup := (hws.map (fun q => q.1)).nodup_iff.mp hD2.1
  rw [List.map_append] at hnd
  have hnd2 := List.nodup_append.mp hnd
  have hDw : va_D E'.A (w' σ') := va_D_nd.mpr ⟨hnd2.1, hin⟩
  have hDr : va_D A wr := va_D_nd.mpr ⟨hnd2.2.1, fun q hq => hD2.2 q (hws.mem_iff.mpr (List.mem_append_right _ hq))⟩
  have hw' : Wo E' w' σ' H := ⟨hPw, hDw⟩
  have hH0 : ∀ q : Nat, q < X.2.2.2.1.heap.size → H[q]? = X.2.2.2.1.heap[q]? := fun q h => hS.2.1 q h (fun h2 => by have := hA0 q h2; omega)
  have hrun := va_runV (e := X.2.1) (below := X.2.2.2.2.2.2.1) (meth := X.2.2.2.2.2.2.2.1) (As := av) (rest := st) (C := Cn) (b := a) (H := H) (locs := locs) (cells := k9) (slots := s9) (g := F0 X.2.2.2.2.1 pc ls stk) ⟨O.1, O.2.1, O.2.2.1, O.2.2.2.1, O.2.2.2.2.1⟩ hM (cwV na O.2.2.2.2.1 (goodV h1 h2 h3 h4 h5) rfl rfl rfl hd ⟨Nat.le_trans hF O.2.2.2.2.2.2.2.2.1.1, Nat.le_trans hL O.2.2.2.2.2.2.2.2.1.2.1⟩) ⟨blindG, va_recv hFx.1 hw'.1 hc he, fun U hU hW => ⟨rfl, by rw [hU]; exact hw', Fx.go2 hFx hH0 hU hW⟩⟩ rfl hna hl.1 hs (lv_room hst) hdg ⟨Nat.le_trans hk9 O.2.2.2.2.2.2.2.2.1.2.2.1, Nat.le_trans hs9 O.2.2.2.2.2.2.2.2.1.2.2.2⟩
  intro T0 hT X0
  obtain ⟨v, st₀, t, T', Lq, h0, X', hL, e1, e2, ⟨⟨v', s', hv, hp, hwo⟩, hz, hk⟩, hst⟩ := hrun T0 hT X0
  cases hv
  rw [h0] at hz hk
  obtain ⟨hP2, hD3⟩ := va_beside (D := E.1) hsub hr hPr hDr hk (hE ▸ hwo.1) hwo.2
  obtain ⟨t2, a1, b1⟩ := kk _ s' hp T'.heap (locs ++ Lq) ls (by rw [e1]; exact hP2) hD3
    ⟨Nat.le_trans hS.1 (by rw [e1]; exact hz), fun q h1 h2 => by rw [e1, hk q (Nat.lt_of_lt_of_le h1 hS.1) (fun h => h2 (hsub q h))]; exact hS.2.1 q h1 h2, fun q hq => by
      rcases List.mem_append.mp hq with h | h
      · exact hS.2.2 q h
      · exact hsub _ (hL q h)⟩ hl T' rfl X'
  exact ⟨t2, hst t2 a1, b1⟩
end NL
