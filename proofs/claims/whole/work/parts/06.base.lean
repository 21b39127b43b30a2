/-! THE JUDGEMENT OF A METHOD'S BODY: G. A world is a list of cells read off a content σ : T; no call here makes a cell. -/
/-- the environment: the kit's classes and slots, the cells that are the world's, the array classes of int, boolean, long, byte, the static row of WORLDS_OF_FACT -/
abbrev Ev : Type := va_G × (Nat → Prop) × ClassId × ClassId × ClassId × ClassId × Nat
abbrev Ev.A (E : Ev) : Nat → Prop := E.2.1
abbrev Ev.cI (E : Ev) : ClassId := E.2.2.1
abbrev Ev.cZ (E : Ev) : ClassId := E.2.2.2.1
abbrev Ev.cJ (E : Ev) : ClassId := E.2.2.2.2.1
abbrev Ev.cB (E : Ev) : ClassId := E.2.2.2.2.2.1
abbrev Ev.t (E : Ev) : Nat := E.2.2.2.2.2.2
abbrev Ev.tys (E : Ev) : List (ClassId × FieldType) := [(E.cI, .int), (E.cZ, .boolean), (E.cJ, .long), (E.cB, .byte)]
/-- the worlds of a fact, as a row of bits -/
def Wf (f : Nat) : Int64 := match f with
  | 0 => -6148914691236517206
  | 1 => -3689348814741910324
  | 2 => -1085102592571150096
  | 3 => -71777214294589696
  | 4 => -281470681808896
  | _ => -4294967296
def NW (U : State) : Prop :=
  va_Nw (.fieldLinkNest RX5 58 RX2 "length" "I" RX5) U ∧ va_Nw (.fieldLinkNest RX3 39 RX2 "length" "I" RX5) U ∧
  va_Nw (.fieldLinkNest RX5 205 RX3 "words" "I" RX5) U ∧ va_Nw (.fieldLinkNest RX5 91 RX3 "readings" "I" RX5) U ∧
  va_Nw (.fieldLinkNest RX5 291 RX3 "widest" "I" RX5) U ∧ va_Nw (.fieldLinkNest RX5 294 RX3 "narrowest" "I" RX5) U ∧
  va_Nw (.fieldLinkNest RX5 185 RX3 "some" "J" RX5) U ∧ va_Nw (.fieldLinkNest RX5 150 RX0 "number" "I" RX5) U ∧
  va_Nw (.fieldLinkNest RX5 214 RX4 "number" "I" RX5) U ∧ va_Nw (.fieldLinkNest RX5 234 RX1 "hearers" "LAsWasSaid$Hearers;" RX5) U ∧
  va_Nw (.fieldLinkNest RX5 238 RX1 "told" "LAsWasSaid$Told;" RX5) U ∧ va_Nw (.fieldLinkNest RX5 228 RX1 "isKept" "Z" RX5) U ∧
  va_Nw (.fieldLinkNest RX5 232 RX1 "world" "I" RX5) U ∧ va_Nw (.fieldLinkNest RX5 233 RX1 "rounds" "I" RX5) U ∧
  va_Nw (.methodLinkNest RX3 86 yX5_worldsOfFact RX5) U ∧ va_Nw (.methodLinkNest RX3 90 yX5_bitOf RX5) U ∧
  va_Nw (.methodLinkNest RX3 48 yX2_isJoining RX5) U
theorem NW.warm {s U : State} (hW : s.WarmedH U.vm) (h : NW s) : NW U := by
  obtain ⟨h1, h2, h3, h4, h5, h6, h7, h8, h9, h10, h11, h12, h13, h14, h15, h16, h17⟩ := h
  exact ⟨h1.warmF hW, h2.warmF hW, h3.warmF hW, h4.warmF hW, h5.warmF hW, h6.warmF hW, h7.warmF hW, h8.warmF hW, h9.warmF hW, h10.warmF hW, h11.warmF hW, h12.warmF hW, h13.warmF hW, h14.warmF hW, h15.warmM hW, h16.warmM hW, h17.warmM hW⟩
theorem NW.same {s U : State} (e : s.vm = U.vm) (h : NW s) : NW U := by
  obtain ⟨h1, h2, h3, h4, h5, h6, h7, h8, h9, h10, h11, h12, h13, h14, h15, h16, h17⟩ := h
  exact ⟨h1.same rfl e, h2.same rfl e, h3.same rfl e, h4.same rfl e, h5.same rfl e, h6.same rfl e, h7.same rfl e, h8.same rfl e, h9.same rfl e, h10.same rfl e, h11.same rfl e, h12.same rfl e, h13.same rfl e, h14.same rfl e, h15.same rfl e, h16.same rfl e, h17.same rfl e⟩
/-- the static row, read off the start -/
def SR (E : Ev) (U : State) (H : Heap) : Prop := va_Z RX5 "WORLDS_OF_FACT" "[J" (.ref E.t) E.A U H ∧ va_T .long E.t 6 (fun j => .long (Wf j)) E.A U H
def Fx (E : Ev) (U : State) (H : Heap) : Prop := va_K E.1 vwCl E.tys U ∧ NW U ∧ SR E U H
theorem Fx.go {E : Ev} {s U : State} {H : Heap} {locs : List Loc} (h : Fx E s s.heap) (hS : va_S E.A s.heap H locs) (hU : U.heap = H) (hW : s.WarmedH U.vm) : Fx E U U.heap := by
  obtain ⟨hK, hN, hZ, hT⟩ := h
  have hk : ∀ a : Nat, a < s.heap.size → ¬ E.A a → U.heap[a]? = s.heap[a]? := fun a h1 h2 => by rw [hU]; exact hS.2.1 a h1 h2
  exact ⟨va_K.moved hW.alike hK, hN.warm hW, (hZ.moved hW.alike).kept hk, (hT.moved hW.alike).kept hk⟩
def Wo {T : Type} (E : Ev) (w : T → va_W) (σ : T) (H : Heap) : Prop := va_P E.1 vwCl (w σ) H ∧ va_D E.A (w σ)
/-- what a method leaves -/
def QG {T : Type} (E : Ev) (w : T → va_W) (P : Option Value → T → Prop) : Array Value → State → Outcome → State → Prop := fun _ st oc t => (∃ (v : Option Value) (σ : T), oc = .returned v ∧ P v σ ∧ Wo E w σ t.heap) ∧ va_F E.A st t
/-- a method's contract over a world -/
def Ctr {T : Type} (l : Launch) (y : MethodName) (b : ByteArray) (n : Nat) (ret : Option FieldType) (F L : Nat) (E : Ev) (w : T → va_W) (av : List Value) (σ : T) (P : Option Value → T → Prop) : Prop :=
  Met l y (Cond.code y b n ret :: WT) { frames := F, cells := 0, slots := 0, locals := L } (va_Pc av (fun U => Wo E w σ U.heap ∧ Fx E U U.heap)) (QG E w P) 0 0 E.A
theorem Ctr.mono {T : Type} {l : Launch} {y : MethodName} {b : ByteArray} {n : Nat} {ret : Option FieldType} {F L : Nat} {E : Ev} {w : T → va_W} {av : List Value} {σ : T} {P P' : Option Value → T → Prop} (h : Ctr l y b n ret F L E w av σ P) (hP : ∀ v s, P v s → P' v s) : Ctr l y b n ret F L E w av σ P' := by
  intro p e h1 h2 h3 s m args below h4 h5 h6 h7
  obtain ⟨k, o, g1, g2, g3, ⟨⟨⟨v, s', a1, a2, a3⟩, a4⟩, a5⟩⟩ := h p e h1 h2 h3 s m args below h4 h5 h6 h7
  exact ⟨k, o, g1, g2, g3, ⟨⟨⟨v, s', a1, hP _ _ a2, a3⟩, a4⟩, a5⟩⟩
abbrev Bx : Type := Program × Env × Room × State × MethodId × Array Value × List Frame × Method × Code
def G {T : Type} (l : Launch) (E : Ev) (w : T → va_W) (P : Option Value → T → Prop) (X : Bx) (n : Nat) (σ : T) (pc : Nat) (lv : List (Nat × Value)) (st : List Value) : Prop :=
  ∀ (H : Heap) (locs : List Loc) (ls : Array Slot), Wo E w σ H → va_S E.A X.2.2.2.1.heap H locs → lv_has ls n lv →
    W X.1 l X.2.1 X.2.2.1 X.2.2.2.1 X.2.2.2.2.1 X.2.2.2.2.2.1 X.2.2.2.2.2.2.1 X.2.2.2.2.2.2.2.1 X.2.2.2.2.2.2.2.2 H locs 0 0 (MQ X.2.2.2.2.2.2.1 (QG E w P) X.2.2.2.2.2.1 X.2.2.2.1 0 0 E.A) (F0 X.2.2.2.2.1 pc ls st)
/-- what holds of the frame's fixed parts -/
def Ok (E : Ev) (X : Bx) (cc : ByteArray) (n : Nat) (own : String) (ret : Option FieldType) (F L : Nat) : Prop :=
  X.1.tables.exec = Jvm.exec ∧ X.2.2.2.2.2.2.2.2.code = cc ∧ X.2.2.2.2.2.2.2.2.maxLocals = n ∧ X.2.2.2.1.vm.findClass own = some X.2.2.2.2.1.cls ∧
  (∀ w ∈ WT, w.before X.2.2.2.2.2.1 X.2.2.2.1 = true) ∧ Fx E X.2.2.2.1 X.2.2.2.1.heap ∧ X.2.2.2.2.2.2.2.1.sig.returnType = ret ∧ X.2.2.2.2.2.2.2.1.locks = false ∧ F ≤ X.2.2.1.frames ∧ L ≤ X.2.2.1.locals
theorem Ctr.of {T : Type} {l : Launch} {y : MethodName} {b : ByteArray} {n : Nat} {ret : Option FieldType} {F L : Nat} {E : Ev} {w : T → va_W} {av : List Value} {σ : T} {P : Option Value → T → Prop}
    (hy : plainName y.cls = true) (hn : (lg_sl av).length ≤ n) (body : ∀ X : Bx, Ok E X b n y.cls ret F L → G l E w P X n σ 0 (lv_args 0 av) []) : Ctr l y b n ret F L E w av σ P := by
  refine Met.ofW (cc := b) (maxL := n) (ret := ret) hy rfl ?_
  intro p e s m args below meth c s₁ B hml hv
  obtain ⟨rfl, hw, hfx⟩ := hv
  have hts := atoms_spec (ws := Cond.code y b n ret :: WT) B.pre
  rw [lg_entry_eq]
  exact body ⟨p, e, _, s, m, av.toArray, below, meth, c⟩ ⟨B.exec, B.bytes, hml, findClass_of_methodNamed B.named, fun w h => hts w (List.mem_cons_of_mem _ h), hfx, B.returns, B.notSynchronized, Nat.le_refl _, Nat.le_refl _⟩ s.heap [] _ hw va_S.rf (lv_entry av hn)
theorem Ctr.of' {T : Type} {l : Launch} {y : MethodName} {b : ByteArray} {n : Nat} {ret : Option FieldType} {F L : Nat} {E : Ev} {w : T → va_W} {av : List Value} {σ : T} {P : Option Value → T → Prop}
    (hy : plainName y.cls = true) (hn : (lg_sl av).length ≤ n) (body : ∀ (X : Bx) (P0 : Option Value → T → Prop), P0 = P → Ok E X b n y.cls ret F L → G l E w P0 X n σ 0 (lv_args 0 av) []) : Ctr l y b n ret F L E w av σ P := Ctr.of hy hn (fun X O => body X P rfl O)
theorem Ctr.ofF' {T : Type} {l : Launch} {y : MethodName} {b : ByteArray} {n : Nat} {ret : Option FieldType} {F L : Nat} {E : Ev} {w : T → va_W} {av : List Value} {σ : T} {P : Option Value → T → Prop}
    (hy : plainFor y = true) (hn : (lg_sl av).length ≤ n) (body : ∀ (X : Bx) (P0 : Option Value → T → Prop), P0 = P → Ok E X b n y.cls ret F L → G l E w P0 X n σ 0 (lv_args 0 av) []) : Ctr l y b n ret F L E w av σ P := by
  refine va_MetF (cc := b) (maxL := n) (ret := ret) hy rfl ?_
  intro p e s m args below meth c s₁ B hml hv
  obtain ⟨rfl, hw, hfx⟩ := hv
  have hts := atoms_spec (ws := Cond.code y b n ret :: WT) B.pre
  rw [lg_entry_eq]
  exact body ⟨p, e, _, s, m, av.toArray, below, meth, c⟩ P rfl ⟨B.exec, B.bytes, hml, findClass_of_methodNamed B.named, fun w h => hts w (List.mem_cons_of_mem _ h), hfx, B.returns, B.notSynchronized, Nat.le_refl _, Nat.le_refl _⟩ s.heap [] _ hw va_S.rf (lv_entry av hn)
