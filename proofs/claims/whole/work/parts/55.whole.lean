/-! THE CLAIM OUT OF ONE WALK OF THE LAW'S BODY. Your part is whole_start (and what it stands on); all else here is the same for every law, but numbers. -/
def R_law : String := "AsWasSaidLaw"
def lw_P (b : Addr) (xs : List Int32) (args : Array Value) (s : State) : Prop := args = #[.ref b] ∧ s.IntsAt b xs ∧ xs.length ≤ 256 ∧ (Jvm.Cond.and given_1 narrow_1).before args s = true
def lw_Q (_ : Array Value) (s : State) (o : Outcome) (t : State) : Prop := o = .returned (some (.int 1)) ∧ Framed s o t [] 60 2881
def lw_Z (below : List Frame) (a : Array Value) (s : State) : State → Prop := fun t => ∃ o, t.status = .running ∧ Ended t below o ∧ lw_Q a s o t
/-- the law's own end, with 1 on the stack, nothing written that was there before, its room as the claim has it -/
theorem lw_ret {p : Program} {l : Launch} {e : Env} {s : State} {m : MethodId} {below : List Frame} {meth : Method} {c : Code} {b : Nat} (hx : p.tables.exec = Jvm.exec) (hb : c.code = code) (hr : meth.sig.returnType = ret) (hlocks : meth.locks = false) {pc : Nat} {H : Heap} {ls : Array Slot} (hdg : decode code pc = .ok (.ireturn, 1)) : W p l e room_1 s m #[Value.ref b] below meth c H [] 60 2881 (lw_Z below #[Value.ref b] s) (F0 m pc ls [.int 1]) := by
  intro T hT X
  obtain ⟨fs, hret, hrun, hended, hW, hframe⟩ := X.leave (v := some (.int 1)) (hlocks := hlocks) (fun h => by rw [hr] at h; cases h)
  have hmeth' : T.vm.method? m = some meth := X.method'
  refine ⟨T.setFrames fs, ?_, .returned (some (.int 1)), hrun, hended, rfl, ⟨_, rfl⟩, hW, hframe⟩
  jvm_step X.here [X.here.top, hx, hb, hdg, hmeth', hr, ret, narrow_b1]
  (try refine ⟨rfl, ?_⟩); (try refine ⟨rfl, ?_⟩)
  first | (intro acts; rw [hret _ acts rfl rfl rfl]) | rw [hret _ _ rfl rfl rfl]
  exact Steps.refl _
/-- what holds at the law's entry: the machine, the code, the tables' words (any of lw_tbl by 'hts w (by decide +kernel)'), the script of L ints xs at the cell b, what the Statement gives of the start (any of its parts by flat_of_before) -/
def lw_At (p : Program) (s : State) (m : MethodId) (meth : Method) (c : Code) (b L : Nat) (xs : Nat → Int32) : Prop :=
  p.tables.exec = Jvm.exec ∧ c.code = code ∧ meth.sig.returnType = ret ∧ c.maxLocals = 4 ∧ s.vm.findClass R_law = some m.cls ∧ (∀ w ∈ lw_tbl, w.before #[Value.ref b] s = true) ∧ va_X b L xs s s.heap ∧ b < s.heap.size ∧ meth.locks = false ∧ (Jvm.Cond.and given_1 narrow_1).before #[Value.ref b] s = true
-- ===== YOUR PART BEGINS =====
/-- the start: nest mates, the static row, classes, array classes -/
theorem nw_start {args : Array Value} {s : State} (hts : ∀ w ∈ lw_tbl, w.before args s = true) : NW s :=
  ⟨va_Nw.of rfl (hts _ (List.mem_of_getElem? (i := 78) (by decide +kernel))),
   va_Nw.of rfl (hts _ (List.mem_of_getElem? (i := 79) (by decide +kernel))),
   va_Nw.of rfl (hts _ (List.mem_of_getElem? (i := 99) (by decide +kernel))),
   va_Nw.of rfl (hts _ (List.mem_of_getElem? (i := 101) (by decide +kernel))),
   va_Nw.of rfl (hts _ (List.mem_of_getElem? (i := 103) (by decide +kernel))),
   va_Nw.of rfl (hts _ (List.mem_of_getElem? (i := 105) (by decide +kernel))),
   va_Nw.of rfl (hts _ (List.mem_of_getElem? (i := 106) (by decide +kernel))),
   va_Nw.of rfl (hts _ (List.mem_of_getElem? (i := 144) (by decide +kernel))),
   va_Nw.of rfl (hts _ (List.mem_of_getElem? (i := 164) (by decide +kernel))),
   va_Nw.of rfl (hts _ (List.mem_of_getElem? (i := 181) (by decide +kernel))),
   va_Nw.of rfl (hts _ (List.mem_of_getElem? (i := 183) (by decide +kernel))),
   va_Nw.of rfl (hts _ (List.mem_of_getElem? (i := 184) (by decide +kernel))),
   va_Nw.of rfl (hts _ (List.mem_of_getElem? (i := 185) (by decide +kernel))),
   va_Nw.of rfl (hts _ (List.mem_of_getElem? (i := 186) (by decide +kernel))),
   va_Nw.of rfl (hts _ (List.mem_of_getElem? (i := 307) (by decide +kernel))),
   va_Nw.of rfl (hts _ (List.mem_of_getElem? (i := 324) (by decide +kernel))),
   va_Nw.of rfl (hts _ (List.mem_of_getElem? (i := 361) (by decide +kernel)))⟩
theorem sr_start {s : State} {b : Nat} (hts : ∀ w ∈ lw_tbl, w.before #[Value.ref b] s = true) (hgv : (Jvm.Cond.and given_1 narrow_1).before #[Value.ref b] s = true) : ∃ t : Nat, va_Z RX5 "WORLDS_OF_FACT" "[J" (.ref t) (fun q : Nat => s.heap.size ≤ q) s s.heap ∧ va_T .long t 6 (fun j => .long (Wf j)) (fun q : Nat => s.heap.size ≤ q) s s.heap := by
  have hs := flat_of_before _ hgv
  have harr : (Cond.arrayOf (.static "AsWasSaid" "WORLDS_OF_FACT" "[J") .long).before #[Value.ref b] s = true := hs _ (by decide +kernel)
  have hlen : (Cond.eq (.length (.static "AsWasSaid" "WORLDS_OF_FACT" "[J")) (.int 6)).before #[Value.ref b] s = true := hs _ (by decide +kernel)
  have h0 : (Cond.eq (.elem (.static "AsWasSaid" "WORLDS_OF_FACT" "[J") (.int 0)) (.long (-6148914691236517206))).before #[Value.ref b] s = true := hs _ (by decide +kernel)
  have h1 : (Cond.eq (.elem (.static "AsWasSaid" "WORLDS_OF_FACT" "[J") (.int 1)) (.long (-3689348814741910324))).before #[Value.ref b] s = true := hs _ (by decide +kernel)
  have h2 : (Cond.eq (.elem (.static "AsWasSaid" "WORLDS_OF_FACT" "[J") (.int 2)) (.long (-1085102592571150096))).before #[Value.ref b] s = true := hs _ (by decide +kernel)
  have h3 : (Cond.eq (.elem (.static "AsWasSaid" "WORLDS_OF_FACT" "[J") (.int 3)) (.long (-71777214294589696))).before #[Value.ref b] s = true := hs _ (by decide +kernel)
  have h4 : (Cond.eq (.elem (.static "AsWasSaid" "WORLDS_OF_FACT" "[J") (.int 4)) (.long (-281470681808896))).before #[Value.ref b] s = true := hs _ (by decide +kernel)
  have h5 : (Cond.eq (.elem (.static "AsWasSaid" "WORLDS_OF_FACT" "[J") (.int 5)) (.long (-4294967296))).before #[Value.ref b] s = true := hs _ (by decide +kernel)
  have hA : ∀ a : Nat, a < s.heap.size → ¬ (fun q : Nat => s.heap.size ≤ q) a := fun a h q => Nat.not_le.mpr h q
  obtain ⟨t, ht, hT⟩ := va_Tof (N := 6) (f := fun j => .long (Wf j)) (A := fun q : Nat => s.heap.size ≤ q) (by decide) harr (va_eqt hlen) (fun j hj => by
    match j, hj with
    | 0, _ => exact va_eqtl h0
    | 1, _ => exact va_eqtl h1
    | 2, _ => exact va_eqtl h2
    | 3, _ => exact va_eqtl h3
    | 4, _ => exact va_eqtl h4
    | 5, _ => exact va_eqtl h5
    | j + 6, h => exact absurd h (by omega)) hA
  exact ⟨t, va_Zof (hts _ (List.mem_of_getElem? (i := 311) (by decide +kernel))) (hts _ (WT_in ki_X5)) ht hA, hT⟩
theorem ra_start {args : Array Value} {s : State} (hts : ∀ w ∈ WT, w.before args s = true) {ty : FieldType} (hty : ty = .int ∨ ty = .boolean ∨ ty = .long ∨ ty = .byte) (h : Cond.arrayClass ty ∈ WT) : ∃ c : ClassId, ArrOfT s c ty ∧ va_RA s c ty := by
  obtain ⟨c, k, comp, h1, h2, h3⟩ := Cond.arrayClass_spec (hts _ h)
  refine ⟨c, fun n z => ⟨fun k h => (by cases h), k, h2, comp, h3⟩, ?_⟩
  rcases hty with rfl | rfl | rfl | rfl <;> exact h1
set_option maxHeartbeats 4000000 in
set_option maxRecDepth 100000 in
theorem law_walk0 {l : Launch} {E : Ev} {A : Nat → Prop} {X : Bx} {Q : State → Prop} {b L0 : Nat} {xs : Nat → Int32} (hL : L0 ≤ 256) (O : NOk E A X cL_law 4 RL ret 9 342 60 2881) (hX : va_X b L0 xs X.2.2.2.1 X.2.2.2.1.heap ∧ b < X.2.2.2.1.heap.size ∧ ¬ A b) (hA0 : ∀ q, A q → X.2.2.2.1.heap.size ≤ q) (hFx : Fx E X.2.2.2.1 X.2.2.2.1.heap ∧ ∀ q, A q → E.A q) (hE : ∀ (ws : va_W) (lv : List (Nat × Value)), NG l E A X Q 4 ws 60 2881 812 lv [.int 1]) :
    NG l E A X Q 4 [] 0 0 0 [(0, .ref b)] [] := by
  refine n_new 0 O inX5 tyX5 tyX5_ok kcl_L_7 kn_X5 ki_X5 (ci := 5) rfl [.null, .null, .null, .null, .null, .null, .null, .null, .int 0, .int 0, .int 0, .int 0] (by decide) (Nat.le_of_ble_eq_true rfl) (Nat.le_of_ble_eq_true rfl) dL_law_0 (fun q0 => ?_)
  refine n_dup 3 O dL_law_3 rfl ?_
  refine n_callI 4 O (c_X5_init l E) [] [0] [] rfl rfl rfl rfl (by decide) (by decide) kl_L_9 km_X5_init ki_X5 kc_X5_init rfl (by decide +kernel) (Nat.le_of_ble_eq_true rfl) (Nat.le_of_ble_eq_true rfl) (Nat.le_of_ble_eq_true rfl) (Nat.le_of_ble_eq_true rfl) (Nat.le_of_ble_eq_true rfl) dL_law_4 (fun u eu => ?_)
  subst eu
  refine n_astore_n 7 O (lv' := [(1, .ref (u 0)), (0, .ref b)]) dL_law_7 rfl (by decide) rfl ?_
  refine n_new 8 O inX6 tyX6 tyX6_ok kcl_L_10 kn_X6 ki_X6 (ci := 6) rfl [.int 0, .int 0, .null, .int 0, .null, .null, .int 0, .null, .null, .int 0, .null, .null, .null, .null, .int 0, .int 0, .null, .int 0, .int 0, .null, .int 0, .int 0, .int 0, .null, .null, .int 0, .null, .null, .null, .null, .long 0, .int 0, .int 0, .int 0, .int 0, .int 0, .null, .null, .long 0] (by decide) (Nat.le_of_ble_eq_true rfl) (Nat.le_of_ble_eq_true rfl) dL_law_8 (fun q1 => ?_)
  refine n_dup 11 O dL_law_11 rfl ?_
  refine n_callI 12 O (c_X6_init l E) (wX E u xc0) [40] (List.range 40) rfl rfl rfl rfl (by decide) (by decide) kl_L_12 km_X6_init ki_X6 kc_X6_init rfl (by decide +kernel) (Nat.le_of_ble_eq_true rfl) (Nat.le_of_ble_eq_true rfl) (Nat.le_of_ble_eq_true rfl) (Nat.le_of_ble_eq_true rfl) (Nat.le_of_ble_eq_true rfl) dL_law_12 (fun v ev => ?_)
  subst ev
  refine n_astore_n 15 O (lv' := [(2, .ref (v 0)), (1, .ref (u 0)), (0, .ref b)]) dL_law_15 rfl (by decide) rfl ?_
  refine n_iconst 16 O (v := 0) dL_law_16 (by decide) ?_
  refine n_istore_n 17 O (lv' := [(3, .int (nI 0)), (2, .ref (v 0)), (1, .ref (u 0)), (0, .ref b)]) dL_law_17 rfl (by decide) rfl ?_
  refine n_sub [3, 2, 1, 0] (lv' := lvL b (u 0) (v 0) (nI 0)) rfl ?_
  refine n_in (fun hN hM => ?_)
  have e1 : (wX E u xc0 ++ wM E v mc0).map (fun q => q.1) = AX u ++ AM v := by rw [List.map_append, ad_X, ad_M]
  have hm : ∀ q ∈ AX u ++ AM v, A q := fun q hq => by
    rw [← e1] at hq
    obtain ⟨p, hp, rfl⟩ := List.mem_map.mp hq
    exact hM p hp
  exact law_loop hL ⟨O, hX, hA0, hFx, by rw [← e1]; exact hN, fun q h => hm q (List.mem_append_left _ h), fun q h => hm q (List.mem_append_right _ h)⟩ hE (L0 + 1) 0 xc0 mc0 S00 (by omega) (Nat.zero_le _) RX_first RM_first
set_option maxHeartbeats 4000000 in
set_option maxRecDepth 100000 in
/-- THE LAW, from its entry -/
theorem whole_start {p : Program} {e : Env} {s : State} {m : MethodId} {below : List Frame} {meth : Method} {c : Code} (l : Launch) (hflags : l.flags = flags0) {b L : Nat} {xs : Nat → Int32} (hL : L ≤ 256) (C0 : lw_At p s m meth c b L xs) : W p l e room_1 s m #[Value.ref b] below meth c s.heap [] 0 0 (lw_Z below #[Value.ref b] s) (entryFrame m ([Value.ref b] : List Value).toArray 4) := by
  obtain ⟨hx, hb, hr, hml, hown, hts, hX, hbl, hlocks, hgv⟩ := id C0
  have hts2 : ∀ w ∈ WT, w.before #[Value.ref b] s = true := fun w h => hts w (WT_in h)
  obtain ⟨c0, iS0, hKn0⟩ := u_known (C := RX0) (T := TX0) (N := 5) (n := 5) hts2 inX0 (hts2 _ kn_X0)
  obtain ⟨c1, iS1, hKn1⟩ := u_known (C := RX1) (T := TX1) (N := 5) (n := 5) hts2 inX1 (hts2 _ kn_X1)
  obtain ⟨c2, iS2, hKn2⟩ := u_known (C := RX2) (T := TX2) (N := 2) (n := 2) hts2 inX2 (hts2 _ kn_X2)
  obtain ⟨c3, iS3, hKn3⟩ := u_known (C := RX3) (T := TX3) (N := 11) (n := 11) hts2 inX3 (hts2 _ kn_X3)
  obtain ⟨c4, iS4, hKn4⟩ := u_known (C := RX4) (T := TX4) (N := 2) (n := 2) hts2 inX4 (hts2 _ kn_X4)
  obtain ⟨c5, iS5, hKn5⟩ := u_known (C := RX5) (T := TX5) (N := 12) (n := 12) hts2 inX5 (hts2 _ kn_X5)
  obtain ⟨c6, iS6, hKn6⟩ := u_known (C := RX6) (T := TX6) (N := 39) (n := 39) hts2 inX6 (hts2 _ kn_X6)
  obtain ⟨dC, dI, hKc⟩ : ∃ (dC : Nat → ClassId) (dI : Nat → Nat → Nat), ∀ (k : Nat) (q : vw_C), vwCl[k]? = some q → u_Kn s q.1 q.2.1 q.2.2 (dC k) (dI k) := by
    refine ⟨fun k => match k with | 0 => c0 | 1 => c1 | 2 => c2 | 3 => c3 | 4 => c4 | 5 => c5 | _ => c6, fun k => match k with | 0 => iS0 | 1 => iS1 | 2 => iS2 | 3 => iS3 | 4 => iS4 | 5 => iS5 | _ => iS6, ?_⟩
    intro k q hq
    match k, hq with
    | 0, hq => cases hq; exact hKn0
    | 1, hq => cases hq; exact hKn1
    | 2, hq => cases hq; exact hKn2
    | 3, hq => cases hq; exact hKn3
    | 4, hq => cases hq; exact hKn4
    | 5, hq => cases hq; exact hKn5
    | 6, hq => cases hq; exact hKn6
    | k + 7, hq => simp [vwCl] at hq
  obtain ⟨cI, hI⟩ := ra_start hts2 (Or.inl rfl) ka_int
  obtain ⟨cZ, hZ⟩ := ra_start hts2 (Or.inr (Or.inl rfl)) ka_boolean
  obtain ⟨cJ, hJ⟩ := ra_start hts2 (Or.inr (Or.inr (Or.inl rfl))) ka_long
  obtain ⟨cB, hB⟩ := ra_start hts2 (Or.inr (Or.inr (Or.inr rfl))) ka_byte
  obtain ⟨t, hZt, hTt⟩ := sr_start hts hgv
  have hK : va_K (dC, dI) vwCl [(cI, .int), (cZ, .boolean), (cJ, .long), (cB, .byte)] s := ⟨hKc, fun k q hq => by
    match k, hq with
    | 0, hq => cases hq; exact hI
    | 1, hq => cases hq; exact hZ
    | 2, hq => cases hq; exact hJ
    | 3, hq => cases hq; exact hB
    | k + 4, hq => simp at hq⟩
  rw [lg_entry_eq]
  refine law_walk0 (E := ((dC, dI), (fun q : Nat => s.heap.size ≤ q), cI, cZ, cJ, cB, t)) (A := fun q : Nat => s.heap.size ≤ q) (X := (p, e, room_1, s, m, #[Value.ref b], below, meth, c)) (xs := xs) hL ⟨hx, hb, hml, hown, hts2, hK, hr, hlocks, ⟨Nat.le_refl _, Nat.le_refl _, Nat.le_refl _, Nat.le_refl _⟩, fun q h => h⟩ ⟨hX, hbl, Nat.not_le.mpr hbl⟩ (fun q h => h) ⟨⟨hK, nw_start hts, hZt, hTt⟩, fun q h => h⟩ (fun ws lv => ?_) s.heap [] _ (fun k q h => by simp at h) ⟨fun i j p q h => by simp at h, fun k q h => by simp at h⟩ va_S.rf (lv_entry [.ref b] (Nat.le_of_ble_eq_true rfl))
  intro H locs ls hP hD hS hl
  exact va_forget (fun q hq => hS.2.2 q hq) (W.widen (k := 60) (n := 2881) (Nat.le_refl _) (Nat.le_refl _) (lw_ret hx hb hr hlocks dL_law_812))
-- ===== YOUR PART ENDS =====
set_option maxHeartbeats 4000000 in
theorem lw_walk (l : Launch) (hflags : l.flags = flags0) (b : Addr) (xs : List Int32) : MetFree l x (headSpec (Jvm.Cond.code x code maxLocals ret :: tables_1) room_1) (lw_P b xs) (fun _ _ _ _ _ => True) lw_Q := by
  refine MetFree.of_bodyS (code := code) (maxLocals := maxLocals) (ret := ret) (by decide) ?_ ?_
  · intro args s m h hn
    obtain ⟨meth, c, h1, h2, h3, h4, h5, h6, -, -⟩ := Cond.code_spec hn (atoms_spec (ws := Jvm.Cond.code x code maxLocals ret :: tables_1) h _ List.mem_cons_self)
    exact ⟨meth, c, h1, h2, h3, h4, h5, h6⟩
  · intro p e s m args below meth c s₁ B hml0 hP _
    obtain ⟨rfl, hx, hbd, hgv⟩ := hP
    obtain ⟨scr, harrAt, hlist, hof, hsmall⟩ := hx
    obtain ⟨hcb, hkn, -, -⟩ := State.arrayAt?_spec harrAt
    have hown : s.vm.findClass R_law = some m.cls := findClass_of_methodNamed B.named
    have hts0 : ∀ c ∈ (Jvm.Cond.code x code maxLocals ret :: tables_1), c.before #[Value.ref b] s = true := atoms_spec (ws := Jvm.Cond.code x code maxLocals ret :: tables_1) B.pre
    have hts : ∀ w ∈ lw_tbl, w.before #[Value.ref b] s = true := k2_hts_sels lw_privs (fun w hw => hts0 w (List.mem_cons_of_mem _ hw)) lw_privs_ok
    have hml : c.maxLocals = 4 := B.maxLocals_eq (hts0 _ List.mem_cons_self)
    have X₀ : Stand p l e room_1 s m #[Value.ref b] below meth c s₁ [] 0 0 := Stand.of_body B
    have hh0 : s₁.heap = s.heap := by rw [B.state]; rfl
    have hsz : scr.slots.size = xs.length := by rw [← Array.length_toList, hlist, List.length_map]
    have hval : ∀ j : Nat, j < xs.length → scr.slots[j]? = some (.int (xs.getD j 0)) := fun j hj => by
      rw [← Array.getElem?_toList, hlist]
      simp [hj]
    have hbl : b < s.heap.size := (Array.getElem?_eq_some_iff.mp hcb).1
    have hX : va_X b xs.length (fun j => xs.getD j 0) s s.heap := ⟨scr, hcb, hof, hkn, hsz, hval⟩
    have K : W p l e room_1 s m #[Value.ref b] below meth c s₁.heap [] 0 0 (lw_Z below #[Value.ref b] s) (entryFrame m ([Value.ref b] : List Value).toArray 4) := by
      rw [hh0]
      exact whole_start l hflags hbd ⟨B.exec, B.bytes, B.returns, hml, hown, hts, hX, hbl, B.notSynchronized, hgv⟩
    obtain ⟨t, a1, o, b1, b2, b3⟩ := K s₁ rfl X₀
    exact ⟨t, o, a1, b1, b2, b3⟩
theorem lw_pre_spec {args : Array Value} {s : State} (h : (Jvm.Cond.and given_1 narrow_1).before args s = true) (hr : rest_1_c.before args s = true) : ∃ (b : Addr) (xs : List Int32), lw_P b xs args s := by
  have hs := flat_of_before _ h
  have hq := flat_of_before _ hr
  have hc : (Cond.count 1).before args s = true := hs _ (by decide +kernel)
  have harr : (Cond.arrayOf (.arg 0) .int).before args s = true := hs _ (by decide +kernel)
  have hle : (Cond.le (.length (.arg 0)) (.int 256)).before args s = true := hs _ (by decide +kernel)
  have hlen : (Cond.isInt (.length (.arg 0))).before args s = true := hq _ (by decide +kernel)
  have hall : (Cond.all (.arg 0) (.isInt (.elem (.arg 0) (.index 0)))).before args s = true := hq _ (by decide +kernel)
  obtain ⟨b, xs, hb, hx⟩ := State.ints_of_pre rfl harr hlen hall
  have hsm : xs.length < 2 ^ 31 := hx.choose_spec.2.2.2
  have hev : (Term.length (.arg 0)).eval args s none [] s = some (.int xs.length.toInt32) := hx.length_eval hb
  have hv := Cond.le_ints hev (show (Term.int 256).eval args s none [] s = some (.int 256) from rfl)
  have hd : xs.length.toInt32 ≤ 256 := by
    simpa [Cond.before, Cond.holds, hv] using hle
  have hN : xs.length ≤ 256 := (Int32.ofNat_le_ofNat hsm (by decide)).mp (show Int32.ofNat xs.length ≤ Int32.ofNat 256 from hd)
  exact ⟨b, xs, Cond.one_arg hc (show args[0]? = some (.ref b) from hb), hx, hN, h⟩
theorem lw_comes (l : Launch) (hflags : l.flags = flags0) : Comes l x (Jvm.Cond.code x code maxLocals ret :: tables_1) room_1 (fun tb e args s => Calls_1 tb e args s ∧ rest_1 tb e args s ∧ Pre_1 tb e args s)
    (fun _ _ args s o t => lw_Q args s o t) := by
  intro p e ha hc hk s m args below hf hfit hheap happ hpre
  obtain ⟨b, xs, hP⟩ := lw_pre_spec hpre.2.2 hpre.2.1
  obtain ⟨k, o, h1, h2, h3, hQ⟩ := lw_walk l hflags b xs p e ha hc hk s m args below hf ((Spec.applies_iff_loose hf).mp happ).1 hP trivial
  exact ⟨k, o, h1, h2, h3, hQ⟩
theorem lw_frame {s t : State} {o : Outcome} {args : Array Value} (h : Framed s o t [] 60 2881) :
    Framed s o t (fieldLocs frame_1_writes args s ++ arrayLocs frame_1_arrays args s ++ staticLocs frame_1_statics s) 60 2881 := h
theorem lw_limb (L : Cond) (hL : ∀ (args : Array Value) (s t : State), L.after args s (.returned (some (.int 1))) t = true) :
    ArmFor flags0 classFile x code maxLocals ret World_1 tables_1 room_1 Calls_1 rest_1 Pre_1
      (fun tb e a s o t => postC L tb e a s o t ∧ Framed s o t (fieldLocs frame_1_writes a s ++ arrayLocs frame_1_arrays a s ++ staticLocs frame_1_statics s) 60 2881) := by
  intro l hflags _ _ p e ha hc hk s m args below hf hfit hheap happ hpre
  obtain ⟨k, o, h1, h2, h3, rfl, hF⟩ := lw_comes l hflags p e ha hc hk s m args below hf hfit hheap happ hpre
  exact ⟨k, _, h1, h2, h3, hL args s _, lw_frame hF⟩
theorem i_vc : Claimed_1_1 ∧ Claimed_1_2 := ⟨lw_limb limb_1_1 (fun args s t => by simp [limb_1_1, Cond.after, Cond.holds, Cond.value]), lw_limb limb_1_2 (fun args s t => Cond.after_iff.mpr (by
  first | (rw [show limb_1_2 = Cond.eq .result (.int 1) from rfl, Cond.eq_ints (x := 1) (y := 1) rfl rfl]; simp; done) | (simp [limb_1_2, Cond.value, Term.eval]; done)))⟩
