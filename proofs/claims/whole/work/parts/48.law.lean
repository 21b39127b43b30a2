/-! the law: a public call over a world among others -/
theorem Fx.go2 {E : Ev} {s U : State} {H : Heap} (h : Fx E s s.heap) (hH : ∀ a : Nat, a < s.heap.size → H[a]? = s.heap[a]?) (hU : U.heap = H) (hW : s.WarmedH U.vm) : Fx E U U.heap := by
  obtain ⟨hK, hN, hZ, hT⟩ := h
  have hk : ∀ a : Nat, a < s.heap.size → ¬ E.A a → U.heap[a]? = s.heap[a]? := fun a h1 _ => by rw [hU]; exact hH a h1
  exact ⟨va_K.moved hW.alike hK, hN.warm hW, (hZ.moved hW.alike).kept hk, (hT.moved hW.alike).kept hk⟩
/-- a world beside a rest that the callee may not write -/
theorem va_beside {D : va_G} {cl : List vw_C} {A A' : Nat → Prop} {w1 wr : va_W} {H H1 : Heap} (hsub : ∀ q, A' q → A q) (hr : ∀ p ∈ wr, ¬ A' p.1) (hP : va_P D cl wr H) (hDr : va_D A wr) (hk : ∀ q : Nat, q < H.size → ¬ A' q → H1[q]? = H[q]?) (hP1 : va_P D cl w1 H1) (hD1 : va_D A' w1) : va_P D cl (w1 ++ wr) H1 ∧ va_D A (w1 ++ wr) := by
  refine ⟨hP1.app (hP.kept (fun k q hq => hk q.1 (hP k q hq).lt (hr q (List.mem_of_getElem? hq)))), ?_⟩
  have h1 := va_D_nd.mp hD1
  have h2 := va_D_nd.mp hDr
  refine va_D_nd.mpr ⟨?_, fun q hq => ?_⟩
  · rw [List.map_append]
    refine List.nodup_append.mpr ⟨h1.1, h2.1, fun x hx y hy e => ?_⟩
    obtain ⟨p, hp, rfl⟩ := List.mem_map.mp hx
    obtain ⟨r, hr2, rfl⟩ := List.mem_map.mp hy
    exact hr r hr2 (e ▸ h1.2 p hp)
  · rcases List.mem_append.mp hq with h | h
    · exact hsub _ (h1.2 q h)
    · exact h2.2 q h
