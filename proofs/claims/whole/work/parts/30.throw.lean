/-! methods that may throw, in our own words: either they return, or an object of a class that is known by name is thrown and no old cell has changed -/
def q_exc (k : Nat) : String := if k = 1 then "java/lang/IllegalStateException" else if k = 2 then "java/lang/IllegalArgumentException" else "java/lang/IndexOutOfBoundsException"
/-- a static reference of Throwable, where it lies -/
def q_St (n d : String) (A : Nat → Prop) (U : State) (H : Heap) : Prop := ∃ (c : ClassId) (k : Class) (i : Nat) (f : Field) (a : Nat) (cell : Cell) (v : Value), U.vm.findClass Bundle.tN = some c ∧ U.fieldFound? Bundle.tN n d = some (c, k, i, f) ∧ f.isStatic = true ∧ k.statics = some a ∧ H[a]? = some cell ∧ cell.vm.isStatics = true ∧ cell.cls = c ∧ f.slot < cell.slots.size ∧ k.staticTypes[f.slot]? = some f.type ∧ cell.slots[f.slot]? = some v ∧ v.isRef = true ∧ ¬ A a
theorem q_St.moved {n d : String} {A : Nat → Prop} {u U : State} {H : Heap} (hvm : u.vm.Alike U.vm) (h : q_St n d A u H) : q_St n d A U H := by
  obtain ⟨c, k, i, f, a, cell, v, h1, h2, h3, h4, h5, h6, h7, h8, h9, h10⟩ := h
  obtain ⟨k', hi', he⟩ := State.fieldFound?_setVm hvm h2
  exact ⟨c, k', i, f, a, cell, v, by rw [hvm.findClass]; exact h1, hi', h3, by rw [he]; exact h4, h5, h6, h7, h8, by rw [he]; exact h9, h10⟩
theorem q_St.kept {n d : String} {A B : Nat → Prop} {U : State} {H H1 : Heap} (h : q_St n d A U H) (hq : ∀ a : Nat, a < H.size → ¬ A a → H1[a]? = H[a]?) (hB : ∀ q, B q → A q) : q_St n d B U H1 := by
  obtain ⟨c, k, i, f, a, cell, v, h1, h2, h3, h4, h5, h6, h7, h8, h9, h10, h11, h12⟩ := h
  exact ⟨c, k, i, f, a, cell, v, h1, h2, h3, h4, by rw [hq a (Array.getElem?_eq_some_iff.mp h5).1 h12]; exact h5, h6, h7, h8, h9, h10, h11, fun z => h12 (hB a z)⟩
theorem q_St.lays {n d : String} {A : Nat → Prop} {s : State} {args : Array Value} (h : q_St n d A s s.heap) : (Cond.laysStatic Bundle.tN n d).before args s = true := by
  obtain ⟨c, k, i, f, a, cell, v, h1, h2, h3, h4, h5, h6, h7, h8, h9, h10, h11, h12⟩ := h
  simp [Cond.before, Cond.holds, Cond.value, h1, h2, h3, h4, h5, h6, h7, h8, h9]
theorem q_St.isRef {n d : String} {A : Nat → Prop} {s : State} {args : Array Value} (h : q_St n d A s s.heap) : (Cond.isRef (.static Bundle.tN n d)).before args s = true := by
  obtain ⟨c, k, i, f, a, cell, v, h1, h2, h3, h4, h5, h6, h7, h8, h9, h10, h11, h12⟩ := h
  have hu : cell.vm ≠ .unknown := fun z => by rw [z] at h6; cases h6
  have hv : (Term.static Bundle.tN n d).eval args s none [] s = some v := by
    simp [Term.eval, State.fieldNamed?, h2, h3, h4, h5, h10, hu]
    try (cases hz : cell.vm <;> simp_all)
  simp only [Cond.before, Cond.holds, Cond.value, hv]
  cases v <;> simp_all [Value.isRef]
def q_Z (A : Nat → Prop) (U : State) (H : Heap) : Prop := q_St "UNASSIGNED_STACK" Bundle.steD A U H ∧ q_St "SUPPRESSED_SENTINEL" Bundle.listD A U H
theorem q_Z.moved {A : Nat → Prop} {u U : State} {H : Heap} (hvm : u.vm.Alike U.vm) (h : q_Z A u H) : q_Z A U H := ⟨h.1.moved hvm, h.2.moved hvm⟩
theorem q_Z.kept {A B : Nat → Prop} {U : State} {H H1 : Heap} (h : q_Z A U H) (hq : ∀ a : Nat, a < H.size → ¬ A a → H1[a]? = H[a]?) (hB : ∀ q, B q → A q) : q_Z B U H1 := ⟨h.1.kept hq hB, h.2.kept hq hB⟩
/-- q was thrown, of the class E; every old cell is as it was -/
def q_Thr (E : String) (st : State) (q : Addr) (t : State) : Prop := ∃ ce : Cell, t.heap[q]? = some ce ∧ ce.vm = .none ∧ st.vm.findClass E = some ce.cls ∧ st.heap.size ≤ t.heap.size ∧ ∀ a : Nat, a < st.heap.size → t.heap[a]? = st.heap[a]?
def q_QX (Qr : Array Value → State → Outcome → State → Prop) (Qx : State → Addr → State → Prop) (mc ms : Nat) (free : Addr → Prop) : Array Value → State → Outcome → State → Prop := fun a st o t =>
  (Qr a st o t ∧ ∃ L, FrameEnd st o t L mc ms ∧ ∀ q ∈ L, free q.base) ∨
  ∃ q, o = .threw q ∧ Qx st q t ∧ st.WarmedH t.vm ∧ st.sameButNew ({ t with vm := st.vm } : State) [] mc ms
def q_MX (l : Launch) (y : MethodName) (ws : List Cond) (rm : Room) (Pc : Array Value → State → Prop) (Qr : Array Value → State → Outcome → State → Prop) (Qx : State → Addr → State → Prop) (mc ms : Nat) (free : Addr → Prop) : Prop :=
  MetFree l y (headSpec ws rm) Pc (fun _ _ _ _ _ => True) (q_QX Qr Qx mc ms free)
def q_MQX (below : List Frame) (Qr : Array Value → State → Outcome → State → Prop) (Qx : State → Addr → State → Prop) (a : Array Value) (s : State) (mc ms : Nat) (free : Addr → Prop) : State → Prop := fun t =>
  ∃ o, t.status = .running ∧ Ended t below o ∧ q_QX Qr Qx mc ms free a s o t
section QX1
variable {p : Program} {l : Launch} {e : Env} {R : Room} {s : State} {m : MethodId} {args : Array Value} {below : List Frame} {meth : Method} {c : Code} {H : Heap} {locs : List Loc} {cells slots : Nat} {Q : State → Prop}
variable {Qr : Array Value → State → Outcome → State → Prop} {Qx : State → Addr → State → Prop} {mc ms : Nat} {free : Addr → Prop}
theorem q_ofWX {y : MethodName} {ws ws' : List Cond} {rm : Room} {Pc : Array Value → State → Prop} {cc : ByteArray} {maxL : Nat} {ret : Option FieldType}
    (hy : plainName y.cls = true) (hw : ws = Cond.code y cc maxL ret :: ws')
    (body : ∀ p e s m args below meth c s₁, BodyLoose p l y (headSpec ws rm) cc maxL ret e s m args below meth c s₁ → c.maxLocals = maxL → (∀ x ∈ c.exceptionTable.toList, False) → Pc args s →
      W p l e (headSpec ws rm).room s m args below meth c s.heap [] 0 0 (q_MQX below Qr Qx args s mc ms free) (entryFrame m args maxL)) : q_MX l y ws rm Pc Qr Qx mc ms free := by
  refine MetFree.of_bodyS (code := cc) (maxLocals := maxL) (ret := ret) hy ?_ ?_
  · intro args s m h hn
    obtain ⟨meth, c, h1, h2, h3, h4, h5, h6, -, -⟩ := Cond.code_spec hn (atoms_spec (ws := ws) h _ (by rw [hw]; exact List.mem_cons_self))
    exact ⟨meth, c, h1, h2, h3, h4, h5, h6⟩
  · intro p e s m args below meth c s₁ B hml hP _
    have hh0 : s₁.heap = s.heap := by rw [B.state]; rfl
    have ht : ∀ x ∈ c.exceptionTable.toList, False := by
      obtain ⟨meth9, c9, h1, h2, -, -, -, -, h7, -⟩ := Cond.code_spec B.named (atoms_spec (ws := ws) B.pre _ (by rw [hw]; exact List.mem_cons_self))
      cases Option.some.inj (h1.symm.trans B.method)
      cases Option.some.inj (h2.symm.trans (Stand.of_body B).code)
      intro x hx
      rw [Array.isEmpty_iff.mp h7] at hx
      cases hx
    obtain ⟨t, a1, o, b1, b2, b3⟩ := body p e s m args below meth c s₁ B hml ht hP s₁ hh0 (Stand.of_body B)
    exact ⟨t, o, a1, b1, b2, b3⟩
/-- a return, rounded up to the method's room -/
theorem q_retX {g : JFrame} (h1 : cells ≤ mc) (h2 : slots ≤ ms) (k : W p l e R s m args below meth c H locs mc ms (MQ below Qr args s mc ms free) g) : W p l e R s m args below meth c H locs cells slots (q_MQX below Qr Qx args s mc ms free) g := by
  refine W.widen h1 h2 ?_
  intro T hT X
  obtain ⟨t, a1, o, b1, b2, b3, b4⟩ := k T hT X
  exact ⟨t, a1, o, b1, b2, Or.inl ⟨b3, b4⟩⟩
end QX1
section QX2
variable {p : Program} {l : Launch} {e : Env} {R : Room} {s : State} {m : MethodId} {args : Array Value} {below : List Frame} {meth : Method} {c : Code} {locs : List Loc} {cells slots : Nat}
variable {Qr : Array Value → State → Outcome → State → Prop} {Qx : State → Addr → State → Prop} {mc ms : Nat} {free : Addr → Prop}
/-- behind the entry of a callee that may throw: it has come back with a value, or with an object thrown over the caller's frame -/
theorem q_after {U : State} {y : MethodName} {ws : List Cond} {rm : Room} {Pc : Array Value → State → Prop} {bytes : ByteArray} {maxL : Nat} {ret : Option FieldType} {g : JFrame} {ig : Instr} {len W9 : Nat} {mk : MethodId} {a : Array Value}
    (X : Stand p l e R s m args below meth c U locs cells slots) (hM : q_MX l y ws rm Pc Qr Qx mc ms free) (hrc : rm.cells = mc) (hrs : rm.slots = ms) (hframes : rm.frames + 1 ≤ R.frames) (hlocals : W9 + (maxL + 11) + rm.locals ≤ R.locals)
    (hws : ∀ w ∈ ws, ∀ (a' : Array Value) (V : State), s.WarmedH V.vm → w.before a' V = true) (hcode : Cond.code y bytes maxL ret ∈ ws) (hinit : ∀ (a' : Array Value) (V : State), s.WarmedH V.vm → (Cond.initialized y.cls).before a' V = true)
    (hg : g.method = m) (hsize : g.locals.size = c.maxLocals) (hdg : decode c.code g.pc = .ok (ig, len)) (hW : 2 * g.monitorRoom + (g.stack.map fun v => v.category).sum ≤ W9) (hn : U.methodNamed? y = some mk)
    (hc : cells + mc ≤ R.cells) (hs : slots + ms ≤ R.slots) (hP : Pc a (U.calling g mk a)) :
    (∃ (v : Option Value) (t V : State) (L : List Loc), Stand p l e R s m args below meth c V (locs ++ L) (cells + mc) (slots + ms) ∧ V.heap = t.heap ∧ V.vm = t.vm ∧ (∀ q ∈ L, free q.base) ∧ Qr a (U.calling g mk a) (.returned v) t ∧
      Steps p.tables e below (doInvoke e (U.setTop g) [] mk a).1 (V.setTop { g with pc := g.pc + len, stack := v.toList ++ g.stack })) ∨
    (∃ (q : Addr) (t V : State), Stand p l e R s m args below meth c V (locs ++ []) (cells + mc) (slots + ms) ∧ V.heap = t.heap ∧ V.vm = t.vm ∧ Qx (U.calling g mk a) q t ∧
      Steps p.tables e below (doInvoke e (U.setTop g) [] mk a).1 ((V.setTop g).pushFrame (.throwing q))) := by
  have h1 : (headSpec ws rm).pre.before a U = true := atoms_intro fun w hw => hws w hw _ _ X.warmed
  have h2 : (Cond.code y bytes maxL ret).before a U = true := hws _ hcode _ _ X.warmed
  have h3 : (Cond.initialized y.cls).before a U = true := hinit _ _ X.warmed
  have h4 : cells + (headSpec ws rm).room.cells ≤ R.cells := by rw [show (headSpec ws rm).room.cells = mc from hrc]; exact hc
  have h5 : slots + (headSpec ws rm).room.slots ≤ R.slots := by rw [show (headSpec ws rm).room.slots = ms from hrs]; exact hs
  obtain ⟨methY, cY, hmY, hcY, -, hlY, -, -, -, -⟩ := Cond.code_spec hn h2
  obtain ⟨kY, hkY, -⟩ := className_of_methodNamed hn
  have hinitY : kY.init = .initialized := Cond.initialized_spec (findClass_of_methodNamed hn) hkY h3
  have h : At U g.method c below := by rw [hg]; exact X.here
  have hl9 : W9 + (maxL + 11) + (headSpec ws rm).room.locals ≤ R.locals := hlocals
  have happ : (headSpec ws rm).appliesLoose y e.platform (U.calling g mk a) = true :=
    Spec.appliesLoose_calling (g := g) h hdg hn hkY hinitY
      (X.room_calling (g := g) (R' := (headSpec ws rm).room) hsize hmY hcY hframes (by rw [hlY]; omega) h4 h5) h1
  obtain ⟨mid, hmid⟩ := h.above
  have hfr : (U.setTop g).frames = (.java g :: mid) ++ below := by rw [State.frames_setTop' g h.top, hmid]; rfl
  obtain ⟨o, s₂, hsteps, -, hend, hq⟩ := Steps.callFree hM p X.admits X.cas X.clock (acts := []) hfr happ hP trivial
  rw [State.frames_setTop' g h.top] at hend
  obtain ⟨g₀, hg0⟩ := Option.isSome_iff_exists.mp h.top
  obtain ⟨r, hr⟩ := State.topJava?_eq_some.mp hg0
  have hr' : (({ U with heap := s₂.heap, slotsUsed := s₂.slotsUsed } : State).setVm s₂.vm).frames = .java g₀ :: r := hr
  have stand : ∀ (L : List Loc), (U.calling g mk a).WarmedH s₂.vm → (U.calling g mk a).sameButNew ({ s₂ with vm := (U.calling g mk a).vm } : State) L mc ms →
      s₂ = ({ (U.calling g mk a).setFrames s₂.frames with heap := s₂.heap, slotsUsed := s₂.slotsUsed } : State).setVm s₂.vm ∧
      Stand p l e R s m args below meth c (({ U with heap := s₂.heap, slotsUsed := s₂.slotsUsed } : State).setVm s₂.vm) (locs ++ L) (cells + mc) (slots + ms) := by
    intro L hW₂ hsm
    obtain ⟨e2, q2, q3, q4, q5, q6⟩ := hsm
    have hW' : U.WarmedH s₂.vm := hW₂
    refine ⟨?_, ?_⟩
    · have : s₂ = ({ s₂ with vm := (U.calling g mk a).vm } : State).setVm s₂.vm := rfl
      rw [e2] at this
      exact this
    · have hsame : U.sameButNew ({ U with heap := s₂.heap, slotsUsed := s₂.slotsUsed } : State) L mc ms := by
        refine ⟨?_, q2, q3, q4, q5, q6⟩
        obtain ⟨t, ht, -⟩ := State.frames_cons hr
        show ({ U with heap := s₂.heap, slotsUsed := s₂.slotsUsed } : State) = { U.setFrames U.frames with heap := s₂.heap, slotsUsed := s₂.slotsUsed }
        rw [State.setFrames_self ht]
      exact ⟨X.admits, X.cas, X.clock, X.frames, X.room, X.hears, X.method, X.code, (X.here.setHeapUsed s₂.heap s₂.slotsUsed).setVm hW'.alike, X.tail, State.WarmedH.trans X.warmed hW', X.limits, X.bytes, X.same.trans (hsame.setVm s.vm)⟩
  rcases hq with ⟨hqr, L, hfe, hL⟩ | ⟨q, rfl, hqx, hW₂, hsm⟩
  · obtain ⟨⟨v, rfl⟩, hW₂, hsm⟩ := id hfe
    obtain ⟨e3, XV⟩ := stand L hW₂ hsm
    obtain ⟨c₂, i₂, len₂, hc₂, hd₂, hf₂⟩ := hend
    have hW' : U.WarmedH s₂.vm := hW₂
    have hcc : c₂ = c := by
      have h1 : s₂.code? g.method = U.code? g.method := by
        rw [State.code?_eq, State.code?_eq, hW'.alike.method?]
      exact Option.some.inj (hc₂.symm.trans (h1.trans h.code))
    subst hcc
    have hlen : len₂ = len := by rw [hdg] at hd₂; cases hd₂; rfl
    subst hlen
    have hs₂ : s₂ = (({ U with heap := s₂.heap, slotsUsed := s₂.slotsUsed } : State).setVm s₂.vm).setTop { g with pc := g.pc + len₂, stack := v.toList ++ g.stack } := by
      refine e3.trans ?_
      rw [hf₂, State.calling_eq h.top, State.setFrames_setFrames, State.setTop_of_frames _ hr', hr]
      rfl
    exact Or.inl ⟨v, s₂, _, L, XV, rfl, rfl, hL, hqr, by rw [← hs₂]; exact hsteps⟩
  · obtain ⟨e3, XV⟩ := stand [] hW₂ hsm
    have hf₂ : s₂.frames = .throwing q :: .java g :: U.frames.tail := hend
    have hs₂ : s₂ = ((({ U with heap := s₂.heap, slotsUsed := s₂.slotsUsed } : State).setVm s₂.vm).setTop g).pushFrame (.throwing q) := by
      refine e3.trans ?_
      rw [hf₂, State.calling_eq h.top, State.setFrames_setFrames, State.pushFrame, State.frames_setTop _ hr', State.setTop_of_frames _ hr', State.setFrames_setFrames, hr]
      rfl
    exact Or.inr ⟨q, s₂, _, XV, rfl, rfl, hqx, by rw [← hs₂]; exact hsteps⟩
end QX2
theorem q_same0 {s U : State} {k n : Nat} (h : s.sameButNew ({ U with vm := s.vm } : State) [] k n) : s.heap.size ≤ U.heap.size ∧ ∀ a : Nat, a < s.heap.size → U.heap[a]? = s.heap[a]? := by
  obtain ⟨-, h2, -, -, -, h6⟩ := h
  refine ⟨h2, fun a ha => ?_⟩
  have hc : s.heap[a]? = some s.heap[a] := Array.getElem?_eq_getElem ha
  obtain ⟨c', e1, e2, e3, e4⟩ := h6 a _ hc
  have e5 : c'.slots = (s.heap[a]).slots := by
    apply Array.ext_getElem?
    intro i
    exact e4 i (fun z => nomatch z)
  have e6 : U.heap[a]? = some c' := e1
  rw [e6, hc, e2, e5]
section QX3
variable {p : Program} {l : Launch} {e : Env} {R : Room} {s : State} {m : MethodId} {args : Array Value} {below : List Frame} {meth : Method} {c : Code} {H : Heap} {locs : List Loc} {cells slots : Nat} {Q : State → Prop}
variable {Qr : Array Value → State → Outcome → State → Prop} {Qx : State → Addr → State → Prop} {mc ms : Nat} {free : Addr → Prop}
/-- the frame g with q thrown over it -/
def q_WX (p : Program) (l : Launch) (e : Env) (R : Room) (s : State) (m : MethodId) (args : Array Value) (below : List Frame) (meth : Method) (c : Code) (H : Heap) (locs : List Loc) (cells slots : Nat) (Q : State → Prop) (g : JFrame) (q : Addr) : Prop :=
  ∀ T : State, T.heap = H → Stand p l e R s m args below meth c T locs cells slots → ∃ t, Steps p.tables e below ((T.setTop g).pushFrame (.throwing q)) t ∧ Q t
theorem q_xcall {y : MethodName} {bytes cc : ByteArray} {maxL nL n index pc : Nat} {ret : Option FieldType} {ws Ts : List Cond} {rm : Room} {Pc : Array Value → State → Prop} {own C : String} {b : Addr} {As rest st0 : List Value} {ls : Array Slot}
    (S : CallFix p m c cc nL s args Ts own) (hM : q_MX l y ws rm Pc Qr Qx mc ms free) (cw : CallW R s args own C index y bytes maxL ret ws rm mc ms n) (hp : PreV s H C b Pc As) (hn : As.length = n) (hsize : ls.size = nL) (hstack : st0 = As.reverse ++ .ref b :: rest)
    (hW : 2 * (F0 m pc ls st0).monitorRoom + (rest.map fun v => v.category).sum ≤ 8) (hdg : decode cc pc = .ok (.invokevirtual index, 3)) (hf : cells + mc ≤ R.cells ∧ slots + ms ≤ R.slots)
    (kr : ∀ (v : Option Value) (st₀ t : State) (L : List Loc), st₀.heap = H → s.vm.Alike st₀.vm → (∀ q ∈ L, free q.base) → Qr (Value.ref b :: As).toArray st₀ (.returned v) t → W p l e R s m args below meth c t.heap (locs ++ L) (cells + mc) (slots + ms) Q (F0 m (pc + 3) ls (v.toList ++ rest)))
    (kx : ∀ (q : Addr) (st₀ t : State), st₀.heap = H → s.vm.Alike st₀.vm → Qx st₀ q t → q_WX p l e R s m args below meth c t.heap (locs ++ []) (cells + mc) (slots + ms) Q (F0 m pc ls rest) q) : W p l e R s m args below meth c H locs cells slots Q (F0 m pc ls st0) := by
  obtain ⟨⟨hrc, hrs, hfr, hlo, hws, hcw, hcode, hini, hy, hlen, hl⟩, hin, hse⟩ := cw
  obtain ⟨hx, hb, hml, ho, -⟩ := S
  obtain ⟨hbl, ⟨cellB, hcB, hoB, hclB⟩, hPc⟩ := hp
  intro T hT X
  obtain ⟨mk, methM, hnamed, hmethM, hstM, habM⟩ := Cond.instanceMethod_spec hin
  obtain ⟨methM', cM, hmethM', -, -, -, -, -, -, hsigM⟩ := Cond.code_spec hnamed hcode
  cases hmethM.symm.trans hmethM'
  obtain ⟨c2, r2, m2, q1, q2, q3, q4, kP, hkP, hkPi⟩ := Cond.selects_spec hse
  cases hclB.symm.trans q1
  cases (State.methodFound?_of_named hnamed hy).symm.trans q2
  cases hnamed.symm.trans q3
  have hselP : selectMethod e.platform s.vm cellB.cls mk = .method mk := by rw [Launch.admits_selectMethod X.admits]; exact q4
  obtain ⟨vm₁, X₁, hstep₁⟩ := X.invokevirtual hx ho hl hnamed hmethM hstM hkP hkPi hy (a := b) (cell := cellB) (by rw [hT]; exact hcB)
    (fun z h => by rw [h] at hoB; cases hoB) hselP hmethM habM hkP hkPi (g := F0 m pc ls st0) rfl (argsL := As) (rest := rest) (hn.trans (hlen _ hsigM)) hstack (by rw [hb]; exact hdg)
  have hP1 : Pc (Value.ref b :: As).toArray (T.setVm vm₁) := hPc _ hT X₁.warmed
  rcases q_after X₁ hM hrc hrs hfr hlo hws hcw (fun a' V hV => word_at hV (Or.inl (by first | rfl | simp [Cond.onTables, Cond.keeps, Cond.steady])) hini) (g := F0 m pc ls rest) (ig := .invokevirtual index) (len := 3) rfl (hsize.trans hml.symm) (by rw [hb]; exact hdg) hW (X₁.named hnamed) hf.1 hf.2 (hbl _ _ _ _ hP1) with ⟨v, t, V, L, XV, e1, e2, hL, hq, st⟩ | ⟨q, t, V, XV, e1, e2, hq, st⟩
  · obtain ⟨t2, a1, b1⟩ := kr v ((T.setVm vm₁).calling (F0 m pc ls rest) mk (Value.ref b :: As).toArray) t L hT X₁.warmed.alike hL hq V e1 XV
    exact ⟨t2, hstep₁ _ (fun acts => by rw [doInvoke_state]; exact st.trans a1), b1⟩
  · obtain ⟨t2, a1, b1⟩ := kx q ((T.setVm vm₁).calling (F0 m pc ls rest) mk (Value.ref b :: As).toArray) t hT X₁.warmed.alike hq V e1 XV
    exact ⟨t2, hstep₁ _ (fun acts => by rw [doInvoke_state]; exact st.trans a1), b1⟩
/-- it goes on to the caller -/
theorem q_outX {pc : Nat} {q : Addr} {ls : Array Slot} {rest : List Value} (hout : ∀ x ∈ c.exceptionTable.toList, False) (hlocks : meth.locks = false) (hx : ∀ t : State, t.heap = H → Qx s q t) (h0 : locs = []) (hc : cells ≤ mc) (hs : slots ≤ ms) :
    q_WX p l e R s m args below meth c H locs cells slots (q_MQX below Qr Qx args s mc ms free) (F0 m pc ls rest) q := by
  subst h0
  intro T hT X
  obtain ⟨st1, hrun, hend, hW, hsm⟩ := X.leaveThrown q (g := F0 m pc ls rest) rfl rfl rfl (fun x h => (hout x h).elim) hlocks
  exact ⟨_, st1, .threw q, hrun, hend, Or.inr ⟨q, rfl, hx _ hT, hW, hsm.mono hc hs⟩⟩
/-- 'throw new E("..")' where nothing has been written yet -/
theorem q_throw {cc : ByteArray} {pc : Nat} {own cls tx : String} {names : List String} {ik is ic sa : Nat} {ls : Array Slot} {rest : List Value} (hx : p.tables.exec = Jvm.exec) (hb : c.code = cc) (hl : l.stackTraces = false) (hown : s.vm.findClass own = some m.cls) (hcls : Bundle.fit cls = true) (hnames : ∀ n ∈ names, Bundle.fit n = true)
    (hk : (Cond.classLink own ik cls).before args s = true) (hini : (Cond.initialized cls).before args s = true) (hins : (Cond.instantiable cls 6).before args s = true) (hstr : vk_R own is tx sa s) (hat : ∀ w ∈ Bundle.ownAtoms own ic cls names, w.before args s = true) (hsize : ls.size = c.maxLocals)
    (d0 : decode cc pc = .ok (.new ik, 3)) (d3 : decode cc (pc + 3) = .ok (.dup, 1)) (d4 : decode cc (pc + 4) = .ok (.ldc is, 2)) (d6 : decode cc (pc + 6) = .ok (.invokespecial ic, 3)) (d9 : decode cc (pc + 9) = .ok (.athrow, 1))
    (hout : ∀ x ∈ c.exceptionTable.toList, False) (hRf : names.length + 3 < R.frames) (hRl : (rest.map fun v => v.category).sum + (13 * (names.length + 1) + 43) ≤ R.locals) (hRc : cells + 1 ≤ R.cells) (hRs : slots + 6 ≤ R.slots) (hlocks : meth.locks = false)
    (hq : ∀ (q : Addr) (t : State), q_Thr cls s q t → Qx s q t) (hc : cells + 1 ≤ mc) (hs : slots + 6 ≤ ms) :
    W p l e R s m args below meth c s.heap [] cells slots (q_MQX below Qr Qx args s mc ms free) (F0 m pc ls rest) := by
  refine W.newc hx hb hown hk hins hini rfl d0 hRc hRs (fun cC kC h1 h2 h3 h4 => ?_)
  refine W.eq (g2 := F0 m (pc + 3) ls (.ref s.heap.size :: rest)) rfl ?_
  refine lv_dup hx hb d3 rfl ?_
  refine va_ldcS hx hb hown hstr d4 ?_
  intro T hT X
  have htr : e.platform.stackTraces = false := (show e.platform.stackTraces = l.stackTraces by rw [X.admits.platform]).trans hl
  obtain ⟨U, st, hrun, hend, hW, hsm, ce, hce, hoc⟩ := X.ctorThrowS hx htr hown hcls hnames hat (fun x h => nomatch h) (a := s.heap.size) h1 h2 (by rw [hT]; simp [freshCell]) (Nat.le_refl _) (msg := .ref sa) rfl (g := F0 m (pc + 6) ls (.ref sa :: .ref s.heap.size :: .ref s.heap.size :: rest)) rfl hsize rfl rfl rfl (by rw [hb]; exact d6) (by rw [hb]; exact d9) (fun x h => (hout x h).elim) hRf (by show 2 * 0 + (1 + (rest.map fun v => v.category).sum) + (13 * (names.length + 1) + 42) ≤ R.locals; omega) hlocks
  obtain ⟨z1, z2⟩ := q_same0 hsm
  exact ⟨U, st, .threw s.heap.size, hrun, hend, Or.inr ⟨_, rfl, hq _ _ ⟨ce, hce, hoc.vm, hoc.cls, z1, z2⟩, hW, hsm.mono hc hs⟩⟩
end QX3
section QX4
variable {p : Program} {l : Launch} {e : Env} {R : Room} {s : State} {m : MethodId} {args : Array Value} {below : List Frame} {meth : Method} {c : Code} {H : Heap} {locs : List Loc} {cells slots : Nat} {Q : State → Prop}
/-- caught by the row x of the method's table, past rows that name other classes -/
theorem q_catch {pc : Nat} {ls : Array Slot} {rest : List Value} {own name E : String} {ce : Cell} {q : Addr} (hown : s.vm.findClass own = some m.cls) (pre : List ExceptionTableEntry) (x : ExceptionTableEntry) (suf : List ExceptionTableEntry) (hsplit : c.exceptionTable.toList = pre ++ x :: suf)
    (hpass : ∀ z ∈ pre, z.catchType ≠ 0 ∧ ∃ nm : String, (Cond.classLink own z.catchType nm).before args s = true ∧ va_Nc E nm s) (hx : covers x pc = true) (h0 : x.catchType ≠ 0)
    (hlink : (Cond.classLink own x.catchType name).before args s = true) (hcast : (Cond.castable E name).before args s = true) (hcell : H[q]? = some ce) (hv : ce.vm = .none) (hcl : s.vm.findClass E = some ce.cls)
    (kk : W p l e R s m args below meth c H locs cells slots Q (F0 m x.handlerPc ls [.ref q])) : q_WX p l e R s m args below meth c H locs cells slots Q (F0 m pc ls rest) q := by
  intro T hT X
  have hpl : e.platform.magicAccessors = ({} : Platform).magicAccessors := by rw [X.admits.platform]
  obtain ⟨c3, c4, hc3, hc4, hasg⟩ := Cond.castable_spec hcast
  cases Option.some.inj (hc3.symm.trans hcl)
  obtain ⟨c5, hc5, hcl5⟩ := Cond.classLink_spec hown hlink e.platform hpl
  cases Option.some.inj (hc4.symm.trans hc5)
  have hk9 : ∃ k, s.vm.classes[ce.cls]? = some k := by
    obtain ⟨k9, h9, -⟩ := Vm.findClass_spec hcl
    exact ⟨k9, h9⟩
  obtain ⟨vm', X', st⟩ := X.thenCaughtThrough q (g := F0 m pc ls rest) rfl (Steps.refl _) (by rw [hT]; exact hcell) (by rw [hv]; rfl) hk9 pre x suf hsplit
    (fun z hz => by
      obtain ⟨hz0, nm, hl1, a8, b8, g1, g2, g3⟩ := hpass z hz
      obtain ⟨c6, hc6, hcl6⟩ := Cond.classLink_spec hown hl1 e.platform hpl
      cases Option.some.inj (g1.symm.trans hcl)
      cases Option.some.inj (g2.symm.trans hc6)
      exact Or.inr ⟨hz0, _, hcl6, g3⟩) hx (Or.inr ⟨h0, c4, hcl5, hasg⟩)
  obtain ⟨t, a1, b1⟩ := kk (T.setVm vm') hT X'
  exact ⟨t, st.trans a1, b1⟩
end QX4
/-! the contracts' words where a method may throw: k = 0 it returned, else the class q_exc k was thrown -/
def q_QrP (k : Nat) (r : Option Value) : Array Value → State → Outcome → State → Prop := fun _ st o t => k = 0 ∧ o = .returned r ∧ t.heap = st.heap
def q_QrM (k : Nat) (r : Option Value) (D : va_G) (cl : List vw_C) (w1 : va_W) (A : Nat → Prop) : Array Value → State → Outcome → State → Prop := fun _ st o t => k = 0 ∧ o = .returned r ∧ va_P D cl w1 t.heap ∧ va_F A st t
def q_Qx (k : Nat) : State → Addr → State → Prop := fun st q t => k ≠ 0 ∧ q_Thr (q_exc k) st q t
def q_PcPX (av : List Value) (D : va_G) (cl : List vw_C) (w : va_W) (tys : List (ClassId × FieldType)) : Array Value → State → Prop := va_Pc av (fun U => va_P D cl w U.heap ∧ va_K D cl tys U ∧ q_E U ∧ q_Z (fun _ => False) U U.heap)
def q_PcMX (av : List Value) (D : va_G) (cl : List vw_C) (w : va_W) (tys : List (ClassId × FieldType)) (sz : Nat) : Array Value → State → Prop := va_Pc av (fun U => U.heap.size = sz ∧ va_P D cl w U.heap ∧ va_K D cl tys U ∧ va_D (fun _ => True) w ∧ q_E U ∧ q_Z (va_A w sz) U U.heap)
theorem q_blPX {av : List Value} {D : va_G} {cl : List vw_C} {w : va_W} {tys : List (ClassId × FieldType)} : FrameBlind (q_PcPX av D cl w tys) := fun a U g mk h => ⟨h.1, h.2.1, va_K.moved (u := U) (U := U.calling g mk a) (Vm.Alike.refl U.vm) h.2.2.1, q_E.same (u := U) (U := U.calling g mk a) rfl h.2.2.2.1, q_Z.moved (u := U) (U := U.calling g mk a) (Vm.Alike.refl U.vm) h.2.2.2.2⟩
theorem q_blMX {av : List Value} {D : va_G} {cl : List vw_C} {w : va_W} {tys : List (ClassId × FieldType)} {sz : Nat} : FrameBlind (q_PcMX av D cl w tys sz) := fun a U g mk h => ⟨h.1, h.2.1, h.2.2.1, va_K.moved (u := U) (U := U.calling g mk a) (Vm.Alike.refl U.vm) h.2.2.2.1, h.2.2.2.2.1, q_E.same (u := U) (U := U.calling g mk a) rfl h.2.2.2.2.2.1, q_Z.moved (u := U) (U := U.calling g mk a) (Vm.Alike.refl U.vm) h.2.2.2.2.2.2⟩
theorem q_preVPX {s : State} {D : va_G} {cl : List vw_C} {ws wc : va_W} {tys : List (ClassId × FieldType)} {A : Nat → Prop} {b : Nat} {As fs : List Value} {q : vw_C} (hE : q_E s) (hZ : q_Z A s s.heap) (hK : va_K D cl tys s) (hP : va_P D cl ws s.heap) (isC : List Nat) (hC : isC.filterMap (fun i => ws[i]?) = wc) (q0 ci : Nat) (hc : cl[ci]? = some q) (he : ws[q0]? = some (b, .inr (ci, fs))) : PreV s s.heap q.1 b (q_PcPX (.ref b :: As) D cl wc tys) As :=
  ⟨q_blPX, va_recv hK hP hc he, fun U hU hW => ⟨rfl, by rw [hU]; exact hP.sub isC hC, va_K.moved hW.alike hK, hE.warm hW, by rw [hU]; exact (hZ.moved hW.alike).kept (fun _ _ _ => rfl) (fun _ z => z.elim)⟩⟩
section QX5
variable {p : Program} {l : Launch} {e : Env} {R : Room} {s : State} {m : MethodId} {args : Array Value} {below : List Frame} {meth : Method} {c : Code} {cells slots : Nat}
variable {Qr : Array Value → State → Outcome → State → Prop} {Qx : State → Addr → State → Prop} {mc ms : Nat} {free : Addr → Prop}
/-- a call, before anything is written, of a method that only looks and may throw; what it throws goes on to the caller -/
theorem q_dcall {y : MethodName} {bytes cc : ByteArray} {maxL nL n index pc k mc1 ms1 : Nat} {ret : Option FieldType} {ws Ts : List Cond} {rm : Room} {Pc : Array Value → State → Prop} {own C : String} {b : Addr} {As rest st0 stk : List Value} {ls : Array Slot} {r : Option Value}
    (S : CallFix p m c cc nL s args Ts own) (hM : q_MX l y ws rm Pc (q_QrP k r) (q_Qx k) mc1 ms1 (fun _ => False)) (cw : CallW R s args own C index y bytes maxL ret ws rm mc1 ms1 n) (hp : PreV s s.heap C b Pc As) (hn : As.length = n) (hsize : ls.size = nL) (hstack : st0 = As.reverse ++ .ref b :: rest)
    (hW : 2 * (F0 m pc ls st0).monitorRoom + (rest.map fun v => v.category).sum ≤ 8) (hdg : decode cc pc = .ok (.invokevirtual index, 3)) (hf : cells + mc1 ≤ R.cells ∧ slots + ms1 ≤ R.slots) (hout : ∀ x ∈ c.exceptionTable.toList, False) (hlocks : meth.locks = false) (hc : cells + mc1 ≤ mc) (hs : slots + ms1 ≤ ms) (hst : r.toList ++ rest = stk)
    (kx : k ≠ 0 → ∀ (q : Addr) (t : State), q_Thr (q_exc k) s q t → Qx s q t)
    (k0 : k = 0 → W p l e R s m args below meth c s.heap [] (cells + mc1) (slots + ms1) (q_MQX below Qr Qx args s mc ms free) (F0 m (pc + 3) ls stk)) :
    W p l e R s m args below meth c s.heap [] cells slots (q_MQX below Qr Qx args s mc ms free) (F0 m pc ls st0) := by
  subst hst
  refine q_xcall S hM cw hp hn hsize hstack hW hdg hf ?_ ?_
  · intro v st₀ t L h0 hal hL hq
    obtain ⟨h1, h2, h3⟩ := hq
    cases h2
    have hL0 : L = [] := by
      cases L with
      | nil => rfl
      | cons z L => exact (hL z List.mem_cons_self).elim
    subst hL0
    rw [h3, h0]
    exact k0 h1
  · intro q st₀ t h0 hal hq
    obtain ⟨h1, ce, g1, g2, g3, g4, g5⟩ := hq
    refine q_outX hout hlocks (fun t2 ht2 => kx h1 q t2 ⟨ce, ?_, g2, ?_, ?_, ?_⟩) rfl hc hs
    · rw [ht2]; exact g1
    · rw [← hal.findClass]; exact g3
    · rw [ht2, ← h0]; exact g4
    · intro a ha
      rw [ht2, ← h0]
      exact g5 a (by rw [h0]; exact ha)
end QX5
/-- the words of a throw: good ones, others of the tables, and four that speak of Throwable's statics -/
def q_aw (w : Cond) : Bool := decide (w ∈ wsG) || decide (w ∈ q_NW) || decide (w = .isRef (.static Bundle.tN "UNASSIGNED_STACK" Bundle.steD)) || decide (w = .isRef (.static Bundle.tN "SUPPRESSED_SENTINEL" Bundle.listD)) || decide (w = .laysStatic Bundle.tN "UNASSIGNED_STACK" Bundle.steD) || decide (w = .laysStatic Bundle.tN "SUPPRESSED_SENTINEL" Bundle.listD)
theorem q_NW_ok : ∀ w ∈ q_NW, w.onTables = true := by decide
theorem q_hat {args : Array Value} {s : State} {A : Nat → Prop} {L : List Cond} (h : L.all q_aw = true) (hts : ∀ w ∈ wsG, w.before args s = true) (hE : q_E s) (hZ : q_Z A s s.heap) : ∀ w ∈ L, w.before args s = true := by
  intro w hw
  have h1 := List.all_eq_true.mp h w hw
  simp only [q_aw, Bool.or_eq_true, decide_eq_true_eq] at h1
  rcases h1 with ((((h1 | h1) | h1) | h1) | h1) | h1
  · exact hts w h1
  · exact va_Nw.use (q_NW_ok w h1) (hE.1 w h1)
  · subst h1; exact hZ.1.isRef
  · subst h1; exact hZ.2.isRef
  · subst h1; exact hZ.1.lays
  · subst h1; exact hZ.2.lays
set_option maxRecDepth 100000 in
theorem q_at1 : (Bundle.ownAtoms "RoomFills" 99 "java/lang/IllegalStateException" ["java/lang/RuntimeException", "java/lang/Exception"]).all q_aw = true := by decide +kernel
set_option maxRecDepth 100000 in
theorem q_at2 : (Bundle.ownAtoms "RoomFills" 76 "java/lang/IllegalArgumentException" ["java/lang/RuntimeException", "java/lang/Exception"]).all q_aw = true := by decide +kernel
set_option maxRecDepth 100000 in
theorem q_at3 : (Bundle.ownAtoms "RoomFills" 174 "java/lang/IndexOutOfBoundsException" ["java/lang/RuntimeException", "java/lang/Exception"]).all q_aw = true := by decide +kernel
