/-! rows of our own, the same for every method: peeling a mirror, calls that keep the order of the world's cells -/
def bI (b : Bool) : Int32 := if b = true then 1 else 0
theorem bI_nar (b : Bool) : narrow .boolean (.int (bI b)) = .int (bI b) := by cases b <;> rfl
theorem bI_fit (b : Bool) : fits .boolean (.int (bI b)) = true := by cases b <;> rfl
theorem q_it {α : Type} {c : Prop} [Decidable c] {a b o : α} (h : (if c then a else b) = o) (hc : c) : a = o := by
  rw [if_pos hc] at h
  exact h
theorem q_ie {α : Type} {c : Prop} [Decidable c] {a b o : α} (h : (if c then a else b) = o) (hc : ¬ c) : b = o := by
  rw [if_neg hc] at h
  exact h
theorem q_ck {α : Type} {c : Prop} [Decidable c] {a : Option α} {o : α} (h : (if c then none else a) = some o) : ¬ c ∧ a = some o := by
  by_cases hc : c
  · rw [if_pos hc] at h
    cases h
  · rw [if_neg hc] at h
    exact ⟨hc, h⟩
theorem q_mb {α β : Type} {x : Option α} {f : α → Option β} {o : β} (h : Option.bind x f = some o) : ∃ r, x = some r ∧ f r = some o := by
  cases x with
  | none => cases h
  | some r => exact ⟨r, rfl, h⟩
/-- what a method that makes nothing owes: its answer, its world behind it, the frame -/
def q_Qm (r : Option Value) (D : va_G) (cl : List vw_C) (w1 : va_W) (A : Nat → Prop) : Array Value → State → Outcome → State → Prop := fun _ st o t => o = .returned r ∧ va_P D cl w1 t.heap ∧ va_F A st t
def q_PcP (av : List Value) (D : va_G) (cl : List vw_C) (w : va_W) (tys : List (ClassId × FieldType)) : Array Value → State → Prop := va_Pc av (fun U => va_P D cl w U.heap ∧ va_K D cl tys U ∧ q_E U)
def q_PcM (av : List Value) (D : va_G) (cl : List vw_C) (w : va_W) (tys : List (ClassId × FieldType)) (sz : Nat) : Array Value → State → Prop := va_Pc av (fun U => U.heap.size = sz ∧ va_P D cl w U.heap ∧ va_K D cl tys U ∧ va_D (fun _ => True) w ∧ q_E U)
theorem q_blP {av : List Value} {D : va_G} {cl : List vw_C} {w : va_W} {tys : List (ClassId × FieldType)} : FrameBlind (q_PcP av D cl w tys) := fun a U g mk h => ⟨h.1, h.2.1, va_K.moved (u := U) (U := U.calling g mk a) (Vm.Alike.refl U.vm) h.2.2.1, q_E.same (u := U) (U := U.calling g mk a) rfl h.2.2.2⟩
theorem q_blM {av : List Value} {D : va_G} {cl : List vw_C} {w : va_W} {tys : List (ClassId × FieldType)} {sz : Nat} : FrameBlind (q_PcM av D cl w tys sz) := fun a U g mk h => ⟨h.1, h.2.1, h.2.2.1, va_K.moved (u := U) (U := U.calling g mk a) (Vm.Alike.refl U.vm) h.2.2.2.1, h.2.2.2.2.1, q_E.same (u := U) (U := U.calling g mk a) rfl h.2.2.2.2.2⟩
theorem q_preVP {s : State} {H : Heap} {D : va_G} {cl : List vw_C} {ws wc : va_W} {tys : List (ClassId × FieldType)} {b : Nat} {As fs : List Value} {q : vw_C} (hE : q_E s) (hK : va_K D cl tys s) (hP : va_P D cl ws H) (isC : List Nat) (hC : isC.filterMap (fun i => ws[i]?) = wc) (q0 ci : Nat) (hc : cl[ci]? = some q) (he : ws[q0]? = some (b, .inr (ci, fs))) : PreV s H q.1 b (q_PcP (.ref b :: As) D cl wc tys) As :=
  ⟨q_blP, va_recv hK hP hc he, fun U hU hW => ⟨rfl, by rw [hU]; exact hP.sub isC hC, va_K.moved hW.alike hK, hE.warm hW⟩⟩
theorem q_preVM {s : State} {H : Heap} {D : va_G} {cl : List vw_C} {ws wc : va_W} {tys : List (ClassId × FieldType)} {A0 : Nat → Prop} {b : Nat} {As fs : List Value} {q : vw_C} (hE : q_E s) (hK : va_K D cl tys s) (hP : va_P D cl ws H) (hD : va_D A0 ws) (isC : List Nat) (hC : isC.filterMap (fun i => ws[i]?) = wc) (hn : va_nd isC = true) (hC2 : isC.map (fun i => ws[i]?) = wc.map some) (q0 ci : Nat) (hc : cl[ci]? = some q) (he : ws[q0]? = some (b, .inr (ci, fs))) : PreV s H q.1 b (q_PcM (.ref b :: As) D cl wc tys H.size) As :=
  ⟨q_blM, va_recv hK hP hc he, fun U hU hW => ⟨rfl, by rw [hU], by rw [hU]; exact hP.sub isC hC, va_K.moved hW.alike hK, (hD.sub isC hn hC2).weaken (fun _ _ _ _ => trivial), hE.warm hW⟩⟩
theorem q_preSP {s : State} {H : Heap} {D : va_G} {cl : List vw_C} {ws wc : va_W} {tys : List (ClassId × FieldType)} {As : List Value} (hE : q_E s) (hK : va_K D cl tys s) (hP : va_P D cl ws H) (isC : List Nat) (hC : isC.filterMap (fun i => ws[i]?) = wc) : PreS s H (q_PcP As D cl wc tys) As :=
  ⟨q_blP, fun U hU hW => ⟨rfl, by rw [hU]; exact hP.sub isC hC, va_K.moved hW.alike hK, hE.warm hW⟩⟩
theorem q_preSM {s : State} {H : Heap} {D : va_G} {cl : List vw_C} {ws wc : va_W} {tys : List (ClassId × FieldType)} {A0 : Nat → Prop} {As : List Value} (hE : q_E s) (hK : va_K D cl tys s) (hP : va_P D cl ws H) (hD : va_D A0 ws) (isC : List Nat) (hC : isC.filterMap (fun i => ws[i]?) = wc) (hn : va_nd isC = true) (hC2 : isC.map (fun i => ws[i]?) = wc.map some) : PreS s H (q_PcM As D cl wc tys H.size) As :=
  ⟨q_blM, fun U hU hW => ⟨rfl, by rw [hU], by rw [hU]; exact hP.sub isC hC, va_K.moved hW.alike hK, (hD.sub isC hn hC2).weaken (fun _ _ _ _ => trivial), hE.warm hW⟩⟩
/-- a world with other cells at some places -/
def q_set : va_W → List Nat → va_W → va_W
  | ws, i :: is, e :: es => q_set (ws.set i e) is es
  | ws, _, _ => ws
theorem q_set_P {D : va_G} {cl : List vw_C} {H1 : Heap} : ∀ (is : List Nat) (ws w1 : va_W), is.length = w1.length → (∀ (k : Nat) (q : Nat × va_E), ws[k]? = some q → k ∉ is → va_at D cl q H1) → va_P D cl w1 H1 → va_P D cl (q_set ws is w1) H1
  | [], ws, w1, _, h, _ => by
    intro k q hk
    have e0 : q_set ws [] w1 = ws := by cases w1 <;> rfl
    rw [e0] at hk
    exact h k q hk (fun z => nomatch z)
  | i :: is, ws, [], hl, _, _ => by cases hl
  | i :: is, ws, e :: es, hl, h, h1 => by
    refine q_set_P is (ws.set i e) es (Nat.succ.inj hl) (fun k q hk hn => ?_) (fun k q hk => h1 (k + 1) q hk)
    by_cases hki : k = i
    · subst hki
      have hlt : k < ws.length := by
        have := (List.getElem?_eq_some_iff.mp hk).1
        simpa using this
      rw [List.getElem?_set_self hlt] at hk
      cases hk
      exact h1 0 _ rfl
    · rw [List.getElem?_set_ne (Ne.symm hki)] at hk
      exact h k q hk (fun z => (List.mem_cons.mp z).elim hki hn)
theorem q_set_fst : ∀ (is : List Nat) (ws w1 : va_W), is.map (fun i => (ws.map Prod.fst)[i]?) = (w1.map Prod.fst).map some → (q_set ws is w1).map Prod.fst = ws.map Prod.fst
  | [], ws, w1, _ => by cases w1 <;> rfl
  | i :: is, ws, [], h => by cases h
  | i :: is, ws, e :: es, h => by
    simp only [List.map_cons, List.cons.injEq] at h
    have h0 : (ws.set i e).map Prod.fst = ws.map Prod.fst := by
      rw [List.map_set]
      apply List.ext_getElem?
      intro k
      by_cases hki : i = k
      · subst hki
        rw [List.getElem?_set_self (List.getElem?_eq_some_iff.mp h.1).1, h.1]
      · rw [List.getElem?_set_ne hki]
    have h2 := q_set_fst is (ws.set i e) es (by rw [h0]; exact h.2)
    exact h2.trans h0
theorem q_D_map {A : Nat → Prop} {ws ws' : va_W} (e : ws'.map Prod.fst = ws.map Prod.fst) (h : va_D A ws) : va_D A ws' := by
  have key : ∀ (k : Nat) (q : Nat × va_E), ws'[k]? = some q → ∃ q0, ws[k]? = some q0 ∧ q0.1 = q.1 := by
    intro k q hk
    have h1 : (ws'.map Prod.fst)[k]? = some q.1 := by rw [List.getElem?_map, hk]; rfl
    rw [e, List.getElem?_map] at h1
    cases hw : ws[k]? with
    | none => rw [hw] at h1; cases h1
    | some q0 => rw [hw] at h1; exact ⟨q0, rfl, Option.some.inj h1⟩
  refine ⟨fun i j x y hi hj hxy => ?_, fun k q hk => ?_⟩
  · obtain ⟨x0, h1, h2⟩ := key i x hi
    obtain ⟨y0, h3, h4⟩ := key j y hj
    exact h.1 i j x0 y0 h1 h3 (h2.trans (hxy.trans h4.symm))
  · obtain ⟨q0, h1, h2⟩ := key k q hk
    rw [← h2]
    exact h.2 k q0 h1
theorem q_at {ws wc : va_W} {is : List Nat} (hC : is.map (fun i => ws[i]?) = wc.map some) {k : Nat} {q : Nat × va_E} (hq : wc[k]? = some q) : ∃ i, is[k]? = some i ∧ ws[i]? = some q := by
  have h1 : (is.map (fun i => ws[i]?))[k]? = some (some q) := by rw [hC, List.getElem?_map, hq]; rfl
  rw [List.getElem?_map] at h1
  cases hi : is[k]? with
  | none => rw [hi] at h1; cases h1
  | some i => rw [hi] at h1; exact ⟨i, rfl, Option.some.inj h1⟩
theorem q_join {A0 : Nat → Prop} {D : va_G} {cl : List vw_C} {ws wc w1 : va_W} {H H1 : Heap} (hP : va_P D cl ws H) (hD : va_D A0 ws) (isC : List Nat) (hC : isC.map (fun i => ws[i]?) = wc.map some) (hsame : w1.map Prod.fst = wc.map Prod.fst)
    (hk : ∀ q : Nat, q < H.size → ¬ va_A wc H.size q → H1[q]? = H[q]?) (hP1 : va_P D cl w1 H1) : va_P D cl (q_set ws isC w1) H1 ∧ va_D A0 (q_set ws isC w1) := by
  have hl1 : isC.length = wc.length := by
    have := congrArg List.length hC
    simpa using this
  have hl2 : w1.length = wc.length := by
    have := congrArg List.length hsame
    simpa using this
  refine ⟨q_set_P isC ws w1 (hl1.trans hl2.symm) (fun k q hkq hn => ?_) hP1, q_D_map (q_set_fst isC ws w1 ?_) hD⟩
  · refine (hP k q hkq).kept (hk q.1 (hP k q hkq).lt (fun h => ?_))
    rcases h with ⟨j, e, h⟩ | h
    · obtain ⟨i, h3, h4⟩ := q_at hC h
      have hij := hD.1 k i q (q.1, e) hkq h4 rfl
      subst hij
      exact hn (List.mem_of_getElem? h3)
    · exact absurd (hP k q hkq).lt (Nat.not_lt.mpr h)
  · rw [hsame]
    apply List.ext_getElem?
    intro k
    have h1 : (isC.map (fun i => ws[i]?))[k]? = (wc.map some)[k]? := by rw [hC]
    rw [List.getElem?_map, List.getElem?_map] at h1
    rw [List.getElem?_map, List.getElem?_map, List.getElem?_map]
    cases hi : isC[k]? with
    | none =>
      rw [hi] at h1
      cases hw : wc[k]? with
      | none => rfl
      | some z => rw [hw] at h1; cases h1
    | some i =>
      rw [hi] at h1
      cases hw : wc[k]? with
      | none => rw [hw] at h1; cases h1
      | some z =>
        rw [hw] at h1
        have h2 : ws[i]? = some z := Option.some.inj h1
        show some ((ws.map Prod.fst)[i]?) = some (some z.1)
        rw [List.getElem?_map, h2]
        rfl
section QROWS
variable {p : Program} {l : Launch} {e : Env} {R : Room} {s : State} {m : MethodId} {args : Array Value} {below : List Frame} {meth : Method} {c : Code} {H : Heap} {locs : List Loc} {cells slots : Nat} {Q : State → Prop}
variable {cc : ByteArray} {pc : Nat} {ls : Array Slot} {rest st0 stk : List Value} {a : Array Value} {A0 : Nat → Prop} {H0 : Heap} {D : va_G} {cl : List vw_C} {ws wc w1 : va_W}
theorem zv_eq (hexec : p.tables.exec = Jvm.exec) (hb : c.code = cc) {b : Bool} {off : Int} {tgt : Nat} (hdg : decode cc pc = .ok (.ifCond .eq off, 3)) (ht : (pc : Int) + off = (tgt : Int))
    (kt : ¬ b = true → W p l e R s m args below meth c H locs cells slots Q (F0 m tgt ls rest)) (kf : b = true → W p l e R s m args below meth c H locs cells slots Q (F0 m (pc + 3) ls rest)) : W p l e R s m args below meth c H locs cells slots Q (F0 m pc ls (.int (bI b) :: rest)) :=
  lv_if_eq hexec hb hdg ht (fun h => kt (fun h2 => by subst h2; exact absurd h (by decide))) (fun h => kf (by cases b; exact absurd rfl h; rfl))
theorem zv_ne (hexec : p.tables.exec = Jvm.exec) (hb : c.code = cc) {b : Bool} {off : Int} {tgt : Nat} (hdg : decode cc pc = .ok (.ifCond .ne off, 3)) (ht : (pc : Int) + off = (tgt : Int))
    (kt : b = true → W p l e R s m args below meth c H locs cells slots Q (F0 m tgt ls rest)) (kf : ¬ b = true → W p l e R s m args below meth c H locs cells slots Q (F0 m (pc + 3) ls rest)) : W p l e R s m args below meth c H locs cells slots Q (F0 m pc ls (.int (bI b) :: rest)) :=
  lv_if_ne hexec hb hdg ht (fun h => kt (by cases b; exact absurd rfl h; rfl)) (fun h => kf (fun h2 => by subst h2; exact absurd h (by decide)))
theorem q_pcall {r : Value} (hr : CallRun p l e R s m args below meth c H locs cells slots 0 0 (F0 m pc ls st0) rest (k2_QcV r a) (fun _ => False)) (kk : W p l e R s m args below meth c H locs cells slots Q (F0 m (pc + 3) ls (r :: rest))) : W p l e R s m args below meth c H locs cells slots Q (F0 m pc ls st0) := W.callV hr kk
theorem q_mcall {r : Option Value} (hr : va_Run p l e R s m args below meth c H locs cells slots 0 0 (F0 m pc ls st0) rest (q_Qm r D cl w1 (va_A wc H.size) a) (va_A wc H.size)) (hP : va_P D cl ws H) (hD : va_D A0 ws) (hS : va_S A0 H0 H locs) (hA : ∀ q, H0.size ≤ q → A0 q) (isC : List Nat) (hC : isC.map (fun i => ws[i]?) = wc.map some) (hsame : w1.map Prod.fst = wc.map Prod.fst) (hst : r.toList ++ rest = stk)
    (kk : ∀ (H1 : Heap) (locs1 : List Loc), va_P D cl (q_set ws isC w1) H1 → va_D A0 (q_set ws isC w1) → va_S A0 H0 H1 locs1 → W p l e R s m args below meth c H1 locs1 cells slots Q (F0 m (pc + 3) ls stk)) : W p l e R s m args below meth c H locs cells slots Q (F0 m pc ls st0) := by
  subst hst
  have hF := va_free hD hS hA isC hC
  intro T hT X
  obtain ⟨v, st₀, t, T', L, h0, X', hL, e1, e2, ⟨hv, hp, hz, hk⟩, st⟩ := hr T hT X
  cases hv
  rw [h0] at hz hk
  have hk1 : ∀ q : Nat, q < H.size → ¬ va_A wc H.size q → T'.heap[q]? = H[q]? := fun q h1 h2 => by rw [e1]; exact hk q h1 h2
  obtain ⟨g1, g2⟩ := q_join hP hD isC hC hsame hk1 (by rw [e1]; exact hp)
  obtain ⟨t2, a1, b1⟩ := kk T'.heap (locs ++ L) g1 g2
    ⟨Nat.le_trans hS.1 (by rw [e1]; exact hz), fun q h1 h2 => by rw [hk1 q (Nat.lt_of_lt_of_le h1 hS.1) (fun z => h2 (hF q z))]; exact hS.2.1 q h1 h2, fun q hq => by
      rcases List.mem_append.mp hq with h | h
      · exact hS.2.2 q h
      · exact hF _ (hL q h)⟩ T' rfl X'
  exact ⟨t2, st t2 a1, b1⟩
end QROWS
abbrev TYS (ki : Nat → ClassId) : List (ClassId × FieldType) := [(ki 0, .int), (ki 1, .long), (ki 2, .boolean)]
