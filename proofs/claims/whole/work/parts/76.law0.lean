abbrev b_Law_law : ByteArray := code
theorem q_old {A0 : Nat → Prop} {D : va_G} {cl : List vw_C} {ws : va_W} {H H1 : Heap} (hP : va_P D cl ws H) (_hD : va_D A0 ws) (_h1 : H.size ≤ H1.size) (h2 : ∀ a : Nat, a < H.size → H1[a]? = H[a]?) : va_P D cl ws H1 := fun k q h => (hP k q h).kept (h2 q.1 (hP k q h).lt)
theorem q_ofWW {l : Launch} {y : MethodName} {ws ws' : List Cond} {rm : Room} {Pc : Array Value → State → Prop} {Qc : Array Value → State → Outcome → State → Prop} {mc ms : Nat} {free : Addr → Prop} {cc : ByteArray} {maxL : Nat} {ret : Option FieldType} {hh : List (Nat × Nat × Nat × Nat)}
    (hy : plainName y.cls = true) (hw : ws = Cond.codeWith y cc maxL ret hh :: ws')
    (body : ∀ p e s m args below meth c s₁, BodyLoose p l y (headSpec ws rm) cc maxL ret e s m args below meth c s₁ → c.maxLocals = maxL → c.exceptionTable.toList.map (fun h => (h.startPc, h.endPc, h.handlerPc, h.catchType)) = hh → Pc args s →
      W p l e (headSpec ws rm).room s m args below meth c s.heap [] 0 0 (MQ below Qc args s mc ms free) (entryFrame m args maxL)) : Met l y ws rm Pc Qc mc ms free := by
  refine MetFree.of_bodyS (code := cc) (maxLocals := maxL) (ret := ret) hy ?_ ?_
  · intro args s m h hn
    obtain ⟨m9, meth, c, hn9, h1, h2, h3, h4, -, h5, h6, -⟩ := Cond.codeWith_spec (atoms_spec (ws := ws) h _ (by rw [hw]; exact List.mem_cons_self))
    cases hn.symm.trans hn9
    exact ⟨meth, c, h1, h2, h3, h4, h5, h6⟩
  · intro p e s m args below meth c s₁ B hml hP _
    have hh0 : s₁.heap = s.heap := by rw [B.state]; rfl
    have ht : c.exceptionTable.toList.map (fun h => (h.startPc, h.endPc, h.handlerPc, h.catchType)) = hh := by
      obtain ⟨m9, meth9, c9, hn9, h1, h2, -, -, h7, -⟩ := Cond.codeWith_spec (atoms_spec (ws := ws) B.pre _ (by rw [hw]; exact List.mem_cons_self))
      cases B.named.symm.trans hn9
      cases Option.some.inj (h1.symm.trans B.method)
      cases Option.some.inj (h2.symm.trans (Stand.of_body B).code)
      exact h7
    obtain ⟨t, a1, o, b1, b2, b3⟩ := body p e s m args below meth c s₁ B hml ht hP s₁ hh0 (Stand.of_body B)
    exact ⟨t, o, a1, b1, b2, ⟨b3.1, b3.2⟩⟩
section QW1
variable {p : Program} {l : Launch} {e : Env} {R : Room} {s : State} {m : MethodId} {args : Array Value} {below : List Frame} {meth : Method} {c : Code} {H : Heap} {locs : List Loc} {cells slots : Nat} {Q : State → Prop}
theorem q_runSW {y : MethodName} {bytes cc : ByteArray} {maxL nL mc ms n index : Nat} {ret : Option FieldType} {hh : List (Nat × Nat × Nat × Nat)} {ws ws' : List Cond} {rm : Room} {Pc : Array Value → State → Prop} {Qc : Array Value → State → Outcome → State → Prop} {free : Addr → Prop} {Ts : List Cond} {own : String} {As rest : List Value} {g : JFrame}
    (S : CallFix p m c cc nL s args Ts own) (hM : Met l y ws rm Pc Qc mc ms free) (ht : ∀ w ∈ Ts, w.before args s = true) (hG : GoodIn Ts ws) (hw : ws = Cond.codeWith y bytes maxL ret hh :: ws') (hrc : rm.cells = mc) (hrs : rm.slots = ms) (hR : rm.frames + 1 ≤ R.frames ∧ 8 + (maxL + 11) + rm.locals ≤ R.locals)
    (hst : (Cond.static y).before args s = true) (hini : (Cond.initialized y.cls).before args s = true) (hlk : (Cond.methodLink own index y).before args s = true) (hd : (y.cls ≠ "java/lang/invoke/MethodHandle" ∧ y.cls ≠ "java/lang/invoke/VarHandle") ∧ (parseMethodDescriptor y.desc).map (fun d => d.parameters.length) = some n) (hp : PreS s H Pc As)
    (hg : g.method = m) (hn : As.length = n) (hsize : g.locals.size = nL) (hstack : g.stack = As.reverse ++ rest) (hW : 2 * g.monitorRoom + (rest.map fun v => v.category).sum ≤ 8) (hdg : decode cc g.pc = .ok (.invokestatic index, 3)) (hf : cells + mc ≤ R.cells ∧ slots + ms ≤ R.slots) :
    va_Run p l e R s m args below meth c H locs cells slots mc ms g rest (Qc As.toArray) (free) := by
  have hcw : Cond.codeWith y bytes maxL ret hh ∈ ws := by rw [hw]; exact List.mem_cons_self
  have hws := pay_in ht hG
  have hK : Back l R p e below s args y 3 8 (PreOf R mc ms Pc) (PostOf Qc mc ms free) := va_backW (hh := hh) (bytes := bytes) (maxL := maxL) (ret := ret) hM hp.1 hrc hrs hR.1 hR.2 hws hcw (fun a' U hW => word_at hW (Or.inl (by first | rfl | simp [Cond.onTables, Cond.keeps, Cond.steady])) hini)
  obtain ⟨hx, hb, hml, ho, -⟩ := S
  intro T hT X
  obtain ⟨mk, methM, cM, hnamed, hmethM, -, -, -, -, -, -, hsigM⟩ := Cond.codeWith_spec (ht _ (hG _ hcw).1)
  have hstatic : methM.isStatic = true := Cond.static_spec hnamed hmethM hst
  obtain ⟨kP, hkP, -⟩ := className_of_methodNamed hnamed
  have hinitP : kP.init = .initialized := Cond.initialized_spec (findClass_of_methodNamed hnamed) hkP hini
  have hlen : As.length = methM.sig.parameters.length := by
    have h2 := hd.2
    rw [hsigM] at h2
    rw [hn]
    exact (Option.some.inj h2).symm
  obtain ⟨vm₁, X₁, hstep₁⟩ := X.invokestatic hx ho hlk hnamed hmethM hstatic hkP hinitP hd.1 (g := g) hg (argsL := As) (rest := rest) hlen hstack (by rw [hb]; exact hdg)
  obtain ⟨v, ⟨U', l2, c2, s2⟩, X', ⟨g', mk', t, L, e1, e2, hq, h1, hL, h2, h3⟩, hsteps⟩ := hK m meth c ⟨T.setVm vm₁, locs, cells, slots⟩ { g with stack := rest } (.invokestatic index) mk As.toArray X₁ hg (hsize.trans hml.symm) (by rw [hb]; exact hdg) hW (X₁.named hnamed) ⟨hf.1, hf.2, hp.2 (T.setVm vm₁) hT X₁.warmed⟩
  dsimp only [Pt.U, Pt.locs, Pt.cells, Pt.slots] at X' e1 e2 h1 h2 h3 hsteps
  subst h1; subst h2; subst h3
  exact ⟨v, (T.setVm vm₁).calling g' mk' As.toArray, t, U', L, hT, X', hL, e1, e2, hq, fun target h => hstep₁ _ fun acts => by rw [doInvoke_state]; exact hsteps.trans h⟩
end QW1
section QW2
variable {p : Program} {l : Launch} {e : Env} {R : Room} {s : State} {m : MethodId} {args : Array Value} {below : List Frame} {meth : Method} {c : Code} {H0 H : Heap} {cells slots : Nat} {Q : State → Prop} {D : va_G} {cl : List vw_C} {ws wc w1 ws' : va_W} {A0 : Nat → Prop}
/-- a call that may throw, with the world given cell by cell behind it -/
theorem q_xcall3 {y : MethodName} {bytes cc : ByteArray} {maxL nL n index pc k mc ms : Nat} {ret : Option FieldType} {wsy Ts : List Cond} {rm : Room} {Pc : Array Value → State → Prop} {own C : String} {b : Addr} {As rest st0 stk : List Value} {ls : Array Slot} {r : Option Value}
    (S : CallFix p m c cc nL s args Ts own) (hM : q_MX l y wsy rm Pc (q_QrM k r D cl w1 (va_A wc H.size)) (q_Qx k) mc ms (va_A wc H.size)) (cw : CallW R s args own C index y bytes maxL ret wsy rm mc ms n) (hp : PreV s H C b Pc As) (hn : As.length = n) (hsize : ls.size = nL) (hstack : st0 = As.reverse ++ .ref b :: rest)
    (hW : 2 * (F0 m pc ls st0).monitorRoom + (rest.map fun v => v.category).sum ≤ 8) (hdg : decode cc pc = .ok (.invokevirtual index, 3)) (hf : cells + mc ≤ R.cells ∧ slots + ms ≤ R.slots)
    (hP : va_P D cl ws H) (hD : va_D A0 ws) (hS : va_S A0 H0 H []) (hA : ∀ q, H0.size ≤ q → A0 q) {isC : List Nat} (hC : isC.map (fun i => ws[i]?) = wc.map some) (al : List Nat) (ha : ws.map Prod.fst = al) (ha' : ws'.map Prod.fst = al)
    (hw : ∀ H1 : Heap, va_P D cl w1 H1 → (∀ (j : Nat) (q : Nat × va_E), ws[j]? = some q → j ∉ isC → va_at D cl q H1) → va_P D cl ws' H1) (hst : r.toList ++ rest = stk)
    (k0 : k = 0 → ∀ (H1 : Heap) (locs1 : List Loc), va_P D cl ws' H1 → va_D A0 ws' → va_S A0 H0 H1 locs1 → W p l e R s m args below meth c H1 locs1 (cells + mc) (slots + ms) Q (F0 m (pc + 3) ls stk))
    (kx : k ≠ 0 → ∀ (q : Addr) (H1 : Heap) (ce : Cell), H1[q]? = some ce → ce.vm = .none → s.vm.findClass (q_exc k) = some ce.cls → va_P D cl ws H1 → va_S A0 H0 H1 [] → q_WX p l e R s m args below meth c H1 [] (cells + mc) (slots + ms) Q (F0 m pc ls rest) q) :
    W p l e R s m args below meth c H [] cells slots Q (F0 m pc ls st0) := by
  subst hst
  have hF := va_free hD hS hA isC hC
  refine q_xcall S hM cw hp hn hsize hstack hW hdg hf ?_ ?_
  · intro v st₀ t L h0 hal hL hq
    obtain ⟨h1, h2, h3, hz, hk⟩ := hq
    cases h2
    rw [h0] at hz hk
    exact k0 h1 t.heap ([] ++ L) (hw t.heap h3 (q_keep hP hD hC hk)) (q_D_map (ha'.trans ha.symm) hD)
      ⟨Nat.le_trans hS.1 hz, fun q h1 h2 => by rw [hk q (Nat.lt_of_lt_of_le h1 hS.1) (fun z => h2 (hF q z))]; exact hS.2.1 q h1 h2, fun q hq => hF _ (hL q (by simpa using hq))⟩
  · intro q st₀ t h0 hal hq
    obtain ⟨h1, ce, g1, g2, g3, g4, g5⟩ := hq
    rw [h0] at g4 g5
    refine kx h1 q t.heap ce g1 g2 (by rw [← hal.findClass]; exact g3) (q_old hP hD g4 g5) ⟨Nat.le_trans hS.1 g4, fun a h1 h2 => by rw [g5 a (Nat.lt_of_lt_of_le h1 hS.1)]; exact hS.2.1 a h1 h2, fun q hq => by cases hq⟩
end QW2
theorem q_tab1 {α : Type} {f : ExceptionTableEntry → α} {L : List ExceptionTableEntry} {a : α} (h : L.map f = [a]) : ∃ x, L = [] ++ x :: [] ∧ f x = a := by
  match L, h with
  | [x], h => exact ⟨x, rfl, (List.cons.inj h).1⟩
theorem q_tab2 {α : Type} {f : ExceptionTableEntry → α} {L : List ExceptionTableEntry} {a b : α} (h : L.map f = [a, b]) : ∃ x y, L = [x, y] ∧ f x = a ∧ f y = b := by
  match L, h with
  | [x, y], h => exact ⟨x, y, rfl, (List.cons.inj h).1, (List.cons.inj (List.cons.inj h).2).1⟩
theorem q_tab3 {α : Type} {f : ExceptionTableEntry → α} {L : List ExceptionTableEntry} {a b d : α} (h : L.map f = [a, b, d]) : ∃ x y z, L = [x, y, z] ∧ f x = a ∧ f y = b ∧ f z = d := by
  match L, h with
  | [x, y, z], h => exact ⟨x, y, z, rfl, (List.cons.inj h).1, (List.cons.inj (List.cons.inj h).2).1, (List.cons.inj (List.cons.inj (List.cons.inj h).2).2).1⟩
theorem q_in01 : vp_in 0 1 := by unfold vp_in; decide
def bJ (b : Bool) : Int64 := if b = true then 1 else 0
theorem q_preVMX3 {s : State} {H H0 : Heap} {locs : List Loc} {D : va_G} {cl : List vw_C} {ws wc : va_W} {tys : List (ClassId × FieldType)} {A0 : Nat → Prop} {b : Nat} {As fs : List Value} {q : vw_C} (hE : q_E s) (hZ : q_Z A0 s H) (hK : va_K D cl tys s) (hP : va_P D cl ws H) (hD : va_D A0 ws) (hS : va_S A0 H0 H locs) (hA : ∀ q, H0.size ≤ q → A0 q) {isC : List Nat} (hn : va_nd isC = true) (hC : isC.map (fun i => ws[i]?) = wc.map some) (q0 ci : Nat) (hc : cl[ci]? = some q) (he : ws[q0]? = some (b, .inr (ci, fs))) : PreV s H q.1 b (q_PcMX (.ref b :: As) D cl wc tys H.size) As :=
  ⟨q_blMX, va_recv hK hP hc he, fun U hU hW => ⟨rfl, by rw [hU], by rw [hU]; exact hP.sub isC (q_fm hC), va_K.moved hW.alike hK, (hD.sub isC hn hC).weaken (fun _ _ _ _ => trivial), hE.warm hW, by rw [hU]; exact (hZ.moved hW.alike).kept (fun _ _ _ => rfl) (va_free hD hS hA isC hC)⟩⟩
theorem q_preSMX3 {s : State} {H H0 : Heap} {locs : List Loc} {D : va_G} {cl : List vw_C} {ws wc : va_W} {tys : List (ClassId × FieldType)} {A0 : Nat → Prop} {As : List Value} (hE : q_E s) (hZ : q_Z A0 s H) (hK : va_K D cl tys s) (hP : va_P D cl ws H) (hD : va_D A0 ws) (hS : va_S A0 H0 H locs) (hA : ∀ q, H0.size ≤ q → A0 q) {isC : List Nat} (hn : va_nd isC = true) (hC : isC.map (fun i => ws[i]?) = wc.map some) : PreS s H (q_PcMX As D cl wc tys H.size) As :=
  ⟨q_blMX, fun U hU hW => ⟨rfl, by rw [hU], by rw [hU]; exact hP.sub isC (q_fm hC), va_K.moved hW.alike hK, (hD.sub isC hn hC).weaken (fun _ _ _ _ => trivial), hE.warm hW, by rw [hU]; exact (hZ.moved hW.alike).kept (fun _ _ _ => rfl) (va_free hD hS hA isC hC)⟩⟩
section QW3
variable {p : Program} {l : Launch} {e : Env} {R : Room} {s : State} {m : MethodId} {args : Array Value} {below : List Frame} {meth : Method} {c : Code} {H0 H : Heap} {cells slots : Nat} {Q : State → Prop} {D : va_G} {cl : List vw_C} {ws : va_W} {A0 : Nat → Prop}
/-- a call of a method that only looks and may throw -/
theorem q_xcallP {y : MethodName} {bytes cc : ByteArray} {maxL nL n index pc k mc ms : Nat} {ret : Option FieldType} {wsy Ts : List Cond} {rm : Room} {Pc : Array Value → State → Prop} {own C : String} {b : Addr} {As rest st0 stk : List Value} {ls : Array Slot} {r : Option Value}
    (S : CallFix p m c cc nL s args Ts own) (hM : q_MX l y wsy rm Pc (q_QrP k r) (q_Qx k) mc ms (fun _ => False)) (cw : CallW R s args own C index y bytes maxL ret wsy rm mc ms n) (hp : PreV s H C b Pc As) (hn : As.length = n) (hsize : ls.size = nL) (hstack : st0 = As.reverse ++ .ref b :: rest)
    (hW : 2 * (F0 m pc ls st0).monitorRoom + (rest.map fun v => v.category).sum ≤ 8) (hdg : decode cc pc = .ok (.invokevirtual index, 3)) (hf : cells + mc ≤ R.cells ∧ slots + ms ≤ R.slots)
    (hP : va_P D cl ws H) (hS : va_S A0 H0 H []) (hst : r.toList ++ rest = stk)
    (k0 : k = 0 → W p l e R s m args below meth c H [] (cells + mc) (slots + ms) Q (F0 m (pc + 3) ls stk))
    (kx : k ≠ 0 → ∀ (q : Addr) (H1 : Heap) (ce : Cell), H1[q]? = some ce → ce.vm = .none → s.vm.findClass (q_exc k) = some ce.cls → va_P D cl ws H1 → va_S A0 H0 H1 [] → q_WX p l e R s m args below meth c H1 [] (cells + mc) (slots + ms) Q (F0 m pc ls rest) q) :
    W p l e R s m args below meth c H [] cells slots Q (F0 m pc ls st0) := by
  subst hst
  refine q_xcall S hM cw hp hn hsize hstack hW hdg hf ?_ ?_
  · intro v st₀ t L h0 hal hL hq
    obtain ⟨h1, h2, h3⟩ := hq
    cases h2
    have hL0 : L = [] := by
      cases L with
      | nil => rfl
      | cons z L => exact (hL z List.mem_cons_self).elim
    subst hL0
    rw [h3, h0]
    exact k0 h1
  · intro q st₀ t h0 hal hq
    obtain ⟨h1, ce, g1, g2, g3, g4, g5⟩ := hq
    rw [h0] at g4 g5
    exact kx h1 q t.heap ce g1 g2 (by rw [← hal.findClass]; exact g3) (fun k q h => (hP k q h).kept (g5 q.1 (hP k q h).lt)) ⟨Nat.le_trans hS.1 g4, fun a h1 h2 => by rw [g5 a (Nat.lt_of_lt_of_le h1 hS.1)]; exact hS.2.1 a h1 h2, fun q hq => by cases hq⟩
end QW3
