/-! a call that writes: the caller's world behind it is given cell by cell (no list is compared with another one that differs) -/
theorem q_n {D : va_G} {cl : List vw_C} {H : Heap} : va_P D cl [] H := fun k q h => by simp at h
theorem q_c {D : va_G} {cl : List vw_C} {H : Heap} {x : Nat × va_E} {ws : va_W} (h : va_at D cl x H) (t : va_P D cl ws H) : va_P D cl (x :: ws) H := by
  intro k q hk
  cases k with
  | zero =>
    rw [List.getElem?_cons_zero] at hk
    cases hk
    exact h
  | succ k =>
    rw [List.getElem?_cons_succ] at hk
    exact t k q hk
theorem q_fm {ws wc : va_W} : ∀ {is : List Nat}, is.map (fun i => ws[i]?) = wc.map some → is.filterMap (fun i => ws[i]?) = wc := by
  intro is
  induction is generalizing wc with
  | nil =>
    intro h
    cases wc with
    | nil => rfl
    | cons a l => cases h
  | cons i is ih =>
    intro h
    cases wc with
    | nil => cases h
    | cons a l =>
      simp only [List.map_cons, List.cons.injEq] at h
      rw [List.filterMap_cons, h.1, ih h.2]
theorem q_preVM3 {s : State} {H : Heap} {D : va_G} {cl : List vw_C} {ws wc : va_W} {tys : List (ClassId × FieldType)} {A0 : Nat → Prop} {b : Nat} {As fs : List Value} {q : vw_C} (hE : q_E s) (hK : va_K D cl tys s) (hP : va_P D cl ws H) (hD : va_D A0 ws) {isC : List Nat} (hn : va_nd isC = true) (hC : isC.map (fun i => ws[i]?) = wc.map some) (q0 ci : Nat) (hc : cl[ci]? = some q) (he : ws[q0]? = some (b, .inr (ci, fs))) : PreV s H q.1 b (q_PcM (.ref b :: As) D cl wc tys H.size) As :=
  q_preVM hE hK hP hD isC (q_fm hC) hn hC q0 ci hc he
theorem q_preSM3 {s : State} {H : Heap} {D : va_G} {cl : List vw_C} {ws wc : va_W} {tys : List (ClassId × FieldType)} {A0 : Nat → Prop} {As : List Value} (hE : q_E s) (hK : va_K D cl tys s) (hP : va_P D cl ws H) (hD : va_D A0 ws) {isC : List Nat} (hn : va_nd isC = true) (hC : isC.map (fun i => ws[i]?) = wc.map some) : PreS s H (q_PcM As D cl wc tys H.size) As :=
  q_preSM hE hK hP hD isC (q_fm hC) hn hC
theorem q_keep {A0 : Nat → Prop} {D : va_G} {cl : List vw_C} {ws wc : va_W} {H H1 : Heap} (hP : va_P D cl ws H) (hD : va_D A0 ws) {isC : List Nat} (hC : isC.map (fun i => ws[i]?) = wc.map some) (hk : ∀ q : Nat, q < H.size → ¬ va_A wc H.size q → H1[q]? = H[q]?) : ∀ (k : Nat) (q : Nat × va_E), ws[k]? = some q → k ∉ isC → va_at D cl q H1 := by
  intro k q hkq hc
  refine (hP k q hkq).kept (hk q.1 (hP k q hkq).lt (fun h => ?_))
  rcases h with ⟨j, e, h⟩ | h
  · obtain ⟨i, h3, h4⟩ := q_at hC h
    have hij := hD.1 k i q (q.1, e) hkq h4 rfl
    subst hij
    exact hc (List.mem_of_getElem? h3)
  · exact absurd (hP k q hkq).lt (Nat.not_lt.mpr h)
section QROWS2
variable {p : Program} {l : Launch} {e : Env} {R : Room} {s : State} {m : MethodId} {args : Array Value} {below : List Frame} {meth : Method} {c : Code} {H : Heap} {locs : List Loc} {cells slots : Nat} {Q : State → Prop}
variable {cc : ByteArray} {pc : Nat} {ls : Array Slot} {rest st0 stk : List Value} {a : Array Value} {A0 : Nat → Prop} {H0 : Heap} {D : va_G} {cl : List vw_C} {ws wc w1 ws' : va_W}
theorem q_mcall3 {r : Option Value} (hr : va_Run p l e R s m args below meth c H locs cells slots 0 0 (F0 m pc ls st0) rest (q_Qm r D cl w1 (va_A wc H.size) a) (va_A wc H.size)) (hP : va_P D cl ws H) (hD : va_D A0 ws) (hS : va_S A0 H0 H locs) (hA : ∀ q, H0.size ≤ q → A0 q) {isC : List Nat} (hC : isC.map (fun i => ws[i]?) = wc.map some) (al : List Nat) (ha : ws.map Prod.fst = al) (ha' : ws'.map Prod.fst = al)
    (hw : ∀ H1 : Heap, va_P D cl w1 H1 → (∀ (k : Nat) (q : Nat × va_E), ws[k]? = some q → k ∉ isC → va_at D cl q H1) → va_P D cl ws' H1) (hst : r.toList ++ rest = stk)
    (kk : ∀ (H1 : Heap) (locs1 : List Loc), va_P D cl ws' H1 → va_D A0 ws' → va_S A0 H0 H1 locs1 → W p l e R s m args below meth c H1 locs1 cells slots Q (F0 m (pc + 3) ls stk)) : W p l e R s m args below meth c H locs cells slots Q (F0 m pc ls st0) := by
  subst hst
  have hF := va_free hD hS hA isC hC
  intro T hT X
  obtain ⟨v, st₀, t, T', L, h0, X', hL, e1, e2, ⟨hv, hp, hz, hk⟩, st⟩ := hr T hT X
  cases hv
  rw [h0] at hz hk
  have hk1 : ∀ q : Nat, q < H.size → ¬ va_A wc H.size q → T'.heap[q]? = H[q]? := fun q h1 h2 => by rw [e1]; exact hk q h1 h2
  obtain ⟨t2, a1, b1⟩ := kk T'.heap (locs ++ L) (hw T'.heap (by rw [e1]; exact hp) (q_keep hP hD hC hk1)) (q_D_map (ha'.trans ha.symm) hD)
    ⟨Nat.le_trans hS.1 (by rw [e1]; exact hz), fun q h1 h2 => by rw [hk1 q (Nat.lt_of_lt_of_le h1 hS.1) (fun z => h2 (hF q z))]; exact hS.2.1 q h1 h2, fun q hq => by
      rcases List.mem_append.mp hq with h | h
      · exact hS.2.2 q h
      · exact hF _ (hL q h)⟩ T' rfl X'
  exact ⟨t2, st t2 a1, b1⟩
end QROWS2
