/-! constructors: contract, call, return -/
def aN9 (h0 ci : Nat) (fs0 : List Value) (sz : Nat) : Nat → Prop := va_A [(h0, .inr (ci, fs0))] sz
def CtrN (l : Launch) (y : MethodName) (b : ByteArray) (n F L C S : Nat) (E : Ev) (ci : Nat) (fs0 : List Value) (WS : (Nat → Nat) → va_W) : Prop :=
  ∀ (h0 sz : Nat), Met l y (Cond.code y b n none :: WT) { frames := F, cells := C, slots := S, locals := L } (va_Pc [.ref h0] (fun U => U.heap.size = sz ∧ va_P E.1 vwCl [(h0, .inr (ci, fs0))] U.heap ∧ va_K E.1 vwCl E.tys U ∧ va_D (fun _ => True) [(h0, .inr (ci, fs0))])) (va_Qv (fun u : Nat → Nat => u 0 = h0) (fun u t => va_P E.1 vwCl (WS u) t.heap ∧ va_D (aN9 h0 ci fs0 sz) (WS u)) (aN9 h0 ci fs0 sz)) C S (aN9 h0 ci fs0 sz)
theorem CtrN.of {l : Launch} {y : MethodName} {b : ByteArray} {n F L C S : Nat} {E : Ev} {ci : Nat} {fs0 : List Value} {WS : (Nat → Nat) → va_W} (hy : plainName y.cls = true) (hyn : y.name = "<init>") (hn : 1 ≤ n)
    (body : ∀ (X : Bx) (h0 : Nat) (A : Nat → Prop), A = aN9 h0 ci fs0 X.2.2.2.1.heap.size → NOk E A X b n y.cls none F L C S → X.2.2.2.2.2.2.2.1.name = "<init>" →
      NG l E A X (MQ X.2.2.2.2.2.2.1 (va_Qv (fun u : Nat → Nat => u 0 = h0) (fun u t => va_P E.1 vwCl (WS u) t.heap ∧ va_D A (WS u)) A) X.2.2.2.2.2.1 X.2.2.2.1 C S A) n [(h0, .inr (ci, fs0))] 0 0 0 [(0, .ref h0)] []) : CtrN l y b n F L C S E ci fs0 WS := by
  intro h0 sz
  refine Met.ofW (cc := b) (maxL := n) (ret := none) hy rfl ?_
  intro p e s m args below meth c s₁ B hml hv
  obtain ⟨rfl, hsz, hP, hK, hD0⟩ := hv
  subst hsz
  have hts := atoms_spec (ws := Cond.code y b n none :: WT) B.pre
  have hin : meth.name = "<init>" := (name_of_methodNamed B.named B.method).1.trans hyn
  rw [lg_entry_eq]
  exact body ⟨p, e, _, s, m, #[Value.ref h0], below, meth, c⟩ h0 _ rfl ⟨B.exec, B.bytes, hml, findClass_of_methodNamed B.named, fun w h => hts w (List.mem_cons_of_mem _ h), hK, B.returns, B.notSynchronized, ⟨Nat.le_refl _, Nat.le_refl _, Nat.le_refl _, Nat.le_refl _⟩, fun q h => Or.inr h⟩ hin s.heap [] _ hP (hD0.self (sz := s.heap.size)) va_S.rf (lv_entry [.ref h0] hn)
section NI
variable {l : Launch} {E : Ev} {A : Nat → Prop} {X : Bx} {Q : State → Prop} {n : Nat} {cc : ByteArray} {own : String} {ret : Option FieldType} {F L C S : Nat} {ws : va_W} {k9 s9 : Nat} {lv : List (Nat × Value)} {st : List Value}
theorem n_callI (pc : Nat) (O : NOk E A X cc n own ret F L C S) {y : MethodName} {b : ByteArray} {nb Fb Lb Cb Sb ci idx q : Nat} {fs0 : List Value} {WS : (Nat → Nat) → va_W} (hM : CtrN l y b nb Fb Lb Cb Sb E ci fs0 WS) (wr : va_W) (isC isR : List Nat) (hCm : isC.map (fun i => ws[i]?) = [(q, (.inr (ci, fs0) : va_E))].map some) (hCf : isC.filterMap (fun i => ws[i]?) = [(q, (.inr (ci, fs0) : va_E))]) (hCn : va_nd isC = true) (hR : isR.map (fun i => ws[i]?) = wr.map some) (hRn : va_nd isR = true) (hdis : ∀ i ∈ isR, i ∉ isC)
    (h1 : Cond.methodLink own idx y ∈ WT) (h2 : Cond.instanceMethod y ∈ WT) (h4 : Cond.initialized y.cls ∈ WT) (h5 : Cond.code y b nb none ∈ WT) (hy1 : y.name = "<init>")
    (hd : y.cls ≠ "java/lang/invoke/MethodHandle" ∧ y.cls ≠ "java/lang/invoke/VarHandle" ∧ (parseMethodDescriptor y.desc).map (fun d => d.parameters.length) = some 0) (hF : Fb + 1 ≤ F) (hL : 8 + (nb + 11) + Lb ≤ L) (hCc : k9 + Cb ≤ C) (hSs : s9 + Sb ≤ S) (hst : (st.map fun v => v.category).sum ≤ 8)
    (hdg : decode cc pc = .ok (.invokespecial idx, 3)) (kk : ∀ u : Nat → Nat, u 0 = q → NG l E A X Q n (wr ++ WS u) (k9 + Cb) (s9 + Sb) (pc + 3) lv st) : NG l E A X Q n ws k9 s9 pc lv (.ref q :: st) := by
  intro H locs ls hP hD hS hl
  have hK := O.2.2.2.2.2.1
  have hPc := hP.sub (ws' := [(q, .inr (ci, fs0))]) isC hCf
  have hDc := hD.sub (ws' := [(q, .inr (ci, fs0))]) isC hCn hCm
  have hFc := va_free (wc := [(q, .inr (ci, fs0))]) hD hS O.2.2.2.2.2.2.2.2.2 isC hCm
  refine va_callv (va_runI (As := []) (rest := st) ⟨O.1, O.2.1, O.2.2.1, O.2.2.2.1, O.2.2.2.2.1⟩ (hM q H.size) (cwI 0 O.2.2.2.2.1 (goodC h5) rfl rfl rfl (O.2.2.2.2.1 _ h4) (O.2.2.2.2.1 _ h1) (O.2.2.2.2.1 _ h2) hy1 hd ⟨Nat.le_trans hF O.2.2.2.2.2.2.2.2.1.1, Nat.le_trans hL O.2.2.2.2.2.2.2.2.1.2.1⟩) ⟨fun a U g mk q => by obtain ⟨q0, q1, qP, qK, qD⟩ := q; exact ⟨q0, q1, qP, va_K.moved (u := U) (U := U.calling g mk a) (Vm.Alike.refl U.vm) qK, qD⟩, fun U hU hW => ⟨rfl, by rw [hU], by rw [hU]; exact hPc, va_K.moved hW.alike hK, hDc.weaken (fun _ _ _ _ => trivial)⟩⟩ rfl rfl hl.1 rfl (lv_room hst) hdg ⟨Nat.le_trans hCc O.2.2.2.2.2.2.2.2.1.2.2.1, Nat.le_trans hSs O.2.2.2.2.2.2.2.2.1.2.2.2⟩) hS (fun q _ h => hFc q h) hFc (fun u t H1 locs ht hvm h5 hB hz1 hk1 hS => ?_)
  obtain ⟨hP1, hD1⟩ := hB
  rw [ht] at hP1
  obtain ⟨hP, hD⟩ := va_join (wr := wr) (w1 := WS u) hP hD isC isR hCm hR hRn hdis hk1 hFc hP1 hD1
  exact kk u h5 H1 locs ls hP hD hS hl
theorem n_vret (pc : Nat) {h0 : Nat} {WS : (Nat → Nat) → va_W} (O : NOk E A X cc n own none F L C S) (u : Nat → Nat) (hu : u 0 = h0) (hws : ws = WS u) (hk : k9 ≤ C) (hs : s9 ≤ S) (hdg : decode cc pc = .ok (.return_, 1)) :
    NG l E A X (MQ X.2.2.2.2.2.2.1 (va_Qv (fun u : Nat → Nat => u 0 = h0) (fun u t => va_P E.1 vwCl (WS u) t.heap ∧ va_D A (WS u)) A) X.2.2.2.2.2.1 X.2.2.2.1 C S A) n ws k9 s9 pc lv [] := by
  intro H locs ls hP hD hS hl
  refine W.widen (k := C) (n := S) hk hs ?_
  exact W.vret O.1 O.2.1 O.2.2.2.2.2.2.1 (fun t ht hW => ⟨⟨u, rfl, hu, by rw [ht, ← hws]; exact hP, by rw [← hws]; exact hD⟩, hS.F ht⟩) hS.2.2 hdg O.2.2.2.2.2.2.2.1
end NI
