def f_Wall_isStep (N : Nat) (v_wall_steps : Int32) (v_wall_pipeCount : Int32) (p1 : Int32) : Option (Bool) := (if p1 < 0 then (some false) else (if v_wall_steps ≤ p1 then (some false) else (some true)))
set_option maxRecDepth 100000 in
set_option maxHeartbeats 4000000 in
theorem c_Wall_isStep (l : Launch) (D : va_G) (ad : Nat → Nat) (ki : Nat → ClassId) (v_wall_steps : Int32) (v_wall_pipeCount : Int32) (p1 : Int32) (N : Nat) (r : Bool) (hf : f_Wall_isStep N v_wall_steps v_wall_pipeCount p1 = some r) : Met l y_Wall_isStep w_Wall_isStep { frames := 0, cells := 0, slots := 0, locals := 0 } (q_PcP [.ref (ad 2), .int p1] D vwCl [(ad 2, .inr (1, [.int v_wall_steps, .ref (ad 3), .ref (ad 4), .int v_wall_pipeCount]))] (TYS ki)) (k2_QcV (.int (bI r))) 0 0 (fun _ => False) := by
  refine Met.ofW (cc := b_Wall_isStep) (maxL := 2) (ret := (some .boolean)) (by decide) rfl ?_
  intro p e s m args below meth c s₁ B hml hv
  obtain ⟨rfl, hP, hK, hE⟩ := hv
  have hx := B.exec
  have hb := B.bytes
  have hr := B.returns
  have hts := atoms_spec (ws := w_Wall_isStep) B.pre
  have hown : s.vm.findClass R_Wall = some m.cls := findClass_of_methodNamed B.named
  have hlocks := B.notSynchronized
  have hn_Wall : ∀ w ∈ u_ws R_Wall F_Wall 4, w ∈ w_Wall_isStep := (fun w h => List.mem_cons_of_mem _ (i_Wall w h))
  have hL9 := hts (.fieldLink R_Wall 9 "RoomFills$Wall" "steps" "I") (List.mem_cons_of_mem _ m_92)
  replace hP : va_P D vwCl [(ad 2, .inr (1, [.int v_wall_steps, .ref (ad 3), .ref (ad 4), .int v_wall_pipeCount]))] s.heap := hP
  have hl := lv_entry ([.ref (ad 2), .int p1]) (n := 2) (Nat.le_of_ble_eq_true rfl)
  rw [lg_entry_eq]
  generalize (lg_sl ([.ref (ad 2), .int p1]) ++ List.replicate (2 - (lg_sl ([.ref (ad 2), .int p1])).length) Slot.unset).toArray = ls at hl ⊢
  replace hl : lv_has ls 2 [(0, .ref (ad 2)), (1, .int p1)] := hl
  unfold f_Wall_isStep at hf
  refine lv_iload_n hx hb d_Wall_isStep_0 rfl (lv_at hl 1 rfl) ?_
  refine lv_if_lt (tgt := 16) hx hb d_Wall_isStep_1 (by decide) (fun c_1 => ?_) (fun c_1 => ?_)
  · replace hf := q_it hf c_1
    refine lv_iconst (v := 0) hx hb d_Wall_isStep_16 (by decide) ?_
    cases hf
    exact W.zret (v := bI false) hx hb hr (bI_nar _) (fun t ht hW => ⟨rfl, ht⟩) (fun q h => nomatch h) d_Wall_isStep_17
  replace hf := q_ie hf c_1
  refine lv_iload_n hx hb d_Wall_isStep_4 rfl (lv_at hl 1 rfl) ?_
  refine lv_aload_n hx hb d_Wall_isStep_5 rfl (lv_at hl 0 rfl) ?_
  refine va_get (D := D) (ci := 1) (v := .int v_wall_steps) (C := R_Wall) (T := F_Wall) (N := 4) hx hb hts hn_Wall hown hK hP 0 rfl rfl 0 (by decide) hL9 (fun _ h9 => h9) rfl d_Wall_isStep_6 ?_
  refine lv_icmp_ge (tgt := 16) hx hb d_Wall_isStep_9 (by decide) (fun c_2 => ?_) (fun c_2 => ?_)
  · replace hf := q_it hf c_2
    refine lv_iconst (v := 0) hx hb d_Wall_isStep_16 (by decide) ?_
    cases hf
    exact W.zret (v := bI false) hx hb hr (bI_nar _) (fun t ht hW => ⟨rfl, ht⟩) (fun q h => nomatch h) d_Wall_isStep_17
  replace hf := q_ie hf c_2
  refine lv_iconst (v := 1) hx hb d_Wall_isStep_12 (by decide) ?_
  refine lv_goto (tgt := 17) hx hb d_Wall_isStep_13 (by decide) ?_
  cases hf
  exact W.zret (v := bI true) hx hb hr (bI_nar _) (fun t ht hW => ⟨rfl, ht⟩) (fun q h => nomatch h) d_Wall_isStep_17
def f_Wall_isFree (N : Nat) (n_wfree : Nat) (v_wall_steps : Int32) (v_wall_pipeCount : Int32) (v_wfree : Nat → Int32) (p1 : Int32) : Option (Bool) := (Option.bind (f_Wall_isStep N v_wall_steps v_wall_pipeCount p1) (fun r_1 => (if r_1 = true then (if p1 < 0 ∨ n_wfree ≤ Int32.toNatClampNeg p1 then none else (if (v_wfree (Int32.toNatClampNeg p1)) = 0 then (some false) else (some true))) else (some false))))
set_option maxRecDepth 100000 in
set_option maxHeartbeats 4000000 in
theorem c_Wall_isFree (l : Launch) (D : va_G) (ad : Nat → Nat) (ki : Nat → ClassId) (n_wfree : Nat) (v_wall_steps : Int32) (v_wall_pipeCount : Int32) (v_wfree : Nat → Int32) (p1 : Int32) (N : Nat) (r : Bool) (hf : f_Wall_isFree N n_wfree v_wall_steps v_wall_pipeCount v_wfree p1 = some r) : Met l y_Wall_isFree w_Wall_isFree { frames := 1, cells := 0, slots := 0, locals := 21 } (q_PcP [.ref (ad 2), .int p1] D vwCl [(ad 2, .inr (1, [.int v_wall_steps, .ref (ad 3), .ref (ad 4), .int v_wall_pipeCount])), (ad 3, .inl (ki 2, n_wfree, .inl v_wfree))] (TYS ki)) (k2_QcV (.int (bI r))) 0 0 (fun _ => False) := by
  refine Met.ofW (cc := b_Wall_isFree) (maxL := 2) (ret := (some .boolean)) (by decide) rfl ?_
  intro p e s m args below meth c s₁ B hml hv
  obtain ⟨rfl, hP, hK, hE⟩ := hv
  have hx := B.exec
  have hb := B.bytes
  have hr := B.returns
  have hts := atoms_spec (ws := w_Wall_isFree) B.pre
  have hown : s.vm.findClass R_Wall = some m.cls := findClass_of_methodNamed B.named
  have hlocks := B.notSynchronized
  have hn_Wall : ∀ w ∈ u_ws R_Wall F_Wall 4, w ∈ w_Wall_isFree := (fun w h => List.mem_cons_of_mem _ (i_Wall w h))
  have hL15 := hts (.fieldLink R_Wall 15 "RoomFills$Wall" "free" "[Z") (List.mem_cons_of_mem _ m_97)
  replace hP : va_P D vwCl [(ad 2, .inr (1, [.int v_wall_steps, .ref (ad 3), .ref (ad 4), .int v_wall_pipeCount])), (ad 3, .inl (ki 2, n_wfree, .inl v_wfree))] s.heap := hP
  have hl := lv_entry ([.ref (ad 2), .int p1]) (n := 2) (Nat.le_of_ble_eq_true rfl)
  rw [lg_entry_eq]
  generalize (lg_sl ([.ref (ad 2), .int p1]) ++ List.replicate (2 - (lg_sl ([.ref (ad 2), .int p1])).length) Slot.unset).toArray = ls at hl ⊢
  replace hl : lv_has ls 2 [(0, .ref (ad 2)), (1, .int p1)] := hl
  unfold f_Wall_isFree at hf
  refine lv_aload_n hx hb d_Wall_isFree_0 rfl (lv_at hl 0 rfl) ?_
  refine lv_iload_n hx hb d_Wall_isFree_1 rfl (lv_at hl 1 rfl) ?_
  obtain ⟨r_1, hc_1, hf⟩ := q_mb hf
  refine q_pcall (W.runV (As := [.int p1]) (rest := []) ⟨hx, hb, hml, hown, hts⟩ (c_Wall_isStep l D ad ki v_wall_steps v_wall_pipeCount p1 N r_1 hc_1) (cwV 1 hts (q_goodV ⟨m_436, m_437, m_438, m_55⟩ m_439) rfl rfl rfl (by decide +kernel) ⟨Nat.le_of_ble_eq_true rfl, Nat.le_of_ble_eq_true rfl⟩) (q_preVP (wc := [(ad 2, .inr (1, [.int v_wall_steps, .ref (ad 3), .ref (ad 4), .int v_wall_pipeCount]))]) hE hK hP [0] rfl 0 1 rfl rfl) rfl rfl hl.1 rfl (lv_room (Nat.le_of_ble_eq_true rfl)) d_Wall_isFree_2 ⟨Nat.le_of_ble_eq_true rfl, Nat.le_of_ble_eq_true rfl⟩) ?_
  refine zv_eq (tgt := 21) hx hb d_Wall_isFree_5 (by decide) (fun c_2 => ?_) (fun c_2 => ?_)
  · replace hf := q_ie hf c_2
    refine lv_iconst (v := 0) hx hb d_Wall_isFree_21 (by decide) ?_
    cases hf
    exact W.zret (v := bI false) hx hb hr (bI_nar _) (fun t ht hW => ⟨rfl, ht⟩) (fun q h => nomatch h) d_Wall_isFree_22
  replace hf := q_it hf c_2
  refine lv_aload_n hx hb d_Wall_isFree_8 rfl (lv_at hl 0 rfl) ?_
  refine va_get (D := D) (ci := 1) (v := .ref (ad 3)) (C := R_Wall) (T := F_Wall) (N := 4) hx hb hts hn_Wall hown hK hP 0 rfl rfl 1 (by decide) hL15 (fun _ h9 => h9) rfl d_Wall_isFree_9 ?_
  refine lv_iload_n hx hb d_Wall_isFree_12 rfl (lv_at hl 1 rfl) ?_
  obtain ⟨hi_3, hf⟩ := q_ck hf
  refine va_zald hx hb hK hP 1 2 rfl rfl hi_3 d_Wall_isFree_13 ?_
  refine lv_if_eq (tgt := 21) hx hb d_Wall_isFree_14 (by decide) (fun c_4 => ?_) (fun c_4 => ?_)
  · replace hf := q_it hf c_4
    refine lv_iconst (v := 0) hx hb d_Wall_isFree_21 (by decide) ?_
    cases hf
    exact W.zret (v := bI false) hx hb hr (bI_nar _) (fun t ht hW => ⟨rfl, ht⟩) (fun q h => nomatch h) d_Wall_isFree_22
  replace hf := q_ie hf c_4
  refine lv_iconst (v := 1) hx hb d_Wall_isFree_17 (by decide) ?_
  refine lv_goto (tgt := 22) hx hb d_Wall_isFree_18 (by decide) ?_
  cases hf
  exact W.zret (v := bI true) hx hb hr (bI_nar _) (fun t ht hW => ⟨rfl, ht⟩) (fun q h => nomatch h) d_Wall_isFree_22
def f_Wall_makeFree_cut (N : Nat) (n_wfree : Nat) (v_wall_steps : Int32) (v_wall_pipeCount : Int32) : Nat → Nat → Int32 → Int32 → Bool → Int32 → (Nat → Int32) → Option (Bool × (Nat → Int32))
  | 0, _, _, _, _, _, _ => none
  | n + 1, t, x1, x2, x3, x4, v_wfree => (if x2 ≤ x4 then (some (x3, v_wfree)) else (if x4 < 0 ∨ n_wfree ≤ Int32.toNatClampNeg x4 then none else (if (v_wfree (Int32.toNatClampNeg x4)) = 0 then (if x4 < 0 ∨ n_wfree ≤ Int32.toNatClampNeg x4 then none else (f_Wall_makeFree_cut N n_wfree v_wall_steps v_wall_pipeCount n 0 x1 x2 true (x4 + 1) (upd v_wfree (Int32.toNatClampNeg x4) (vp_nar .boolean 1)))) else (f_Wall_makeFree_cut N n_wfree v_wall_steps v_wall_pipeCount n 0 x1 x2 x3 (x4 + 1) v_wfree))))
theorem f_Wall_makeFree_cut_0 (N : Nat) (n_wfree : Nat) (v_wall_steps : Int32) (v_wall_pipeCount : Int32) (n : Nat) (x1 : Int32) (x2 : Int32) (x3 : Bool) (x4 : Int32) (v_wfree : Nat → Int32) : f_Wall_makeFree_cut N n_wfree v_wall_steps v_wall_pipeCount (n + 1) 0 x1 x2 x3 x4 v_wfree = (if x2 ≤ x4 then (some (x3, v_wfree)) else (if x4 < 0 ∨ n_wfree ≤ Int32.toNatClampNeg x4 then none else (if (v_wfree (Int32.toNatClampNeg x4)) = 0 then (if x4 < 0 ∨ n_wfree ≤ Int32.toNatClampNeg x4 then none else (f_Wall_makeFree_cut N n_wfree v_wall_steps v_wall_pipeCount n 0 x1 x2 true (x4 + 1) (upd v_wfree (Int32.toNatClampNeg x4) (vp_nar .boolean 1)))) else (f_Wall_makeFree_cut N n_wfree v_wall_steps v_wall_pipeCount n 0 x1 x2 x3 (x4 + 1) v_wfree)))) := rfl
def f_Wall_makeFree (N : Nat) (n_wfree : Nat) (v_wall_steps : Int32) (v_wall_pipeCount : Int32) (v_wfree : Nat → Int32) (p1 : Int32) (p2 : Int32) : Option (Bool × (Nat → Int32)) := (f_Wall_makeFree_cut N n_wfree v_wall_steps v_wall_pipeCount N 0 p1 p2 false p1 v_wfree)
set_option maxRecDepth 100000 in
set_option maxHeartbeats 4000000 in
theorem c_Wall_makeFree (l : Launch) (D : va_G) (ad : Nat → Nat) (ki : Nat → ClassId) (n_wfree : Nat) (v_wall_steps : Int32) (v_wall_pipeCount : Int32) (v_wfree : Nat → Int32) (p1 : Int32) (p2 : Int32) (N : Nat) (sz : Nat) (r : Bool) (ov_wfree : Nat → Int32) (hf : f_Wall_makeFree N n_wfree v_wall_steps v_wall_pipeCount v_wfree p1 p2 = some (r, ov_wfree)) : Met l y_Wall_makeFree w_Wall_makeFree { frames := 0, cells := 0, slots := 0, locals := 0 } (q_PcM [.ref (ad 2), .int p1, .int p2] D vwCl [(ad 2, .inr (1, [.int v_wall_steps, .ref (ad 3), .ref (ad 4), .int v_wall_pipeCount])), (ad 3, .inl (ki 2, n_wfree, .inl v_wfree))] (TYS ki) sz) (q_Qm (some (.int (bI r))) D vwCl [(ad 2, .inr (1, [.int v_wall_steps, .ref (ad 3), .ref (ad 4), .int v_wall_pipeCount])), (ad 3, .inl (ki 2, n_wfree, .inl ov_wfree))] (va_A [(ad 2, .inr (1, [.int v_wall_steps, .ref (ad 3), .ref (ad 4), .int v_wall_pipeCount])), (ad 3, .inl (ki 2, n_wfree, .inl v_wfree))] sz)) 0 0 (va_A [(ad 2, .inr (1, [.int v_wall_steps, .ref (ad 3), .ref (ad 4), .int v_wall_pipeCount])), (ad 3, .inl (ki 2, n_wfree, .inl v_wfree))] sz) := by
  refine Met.ofW (cc := b_Wall_makeFree) (maxL := 5) (ret := (some .boolean)) (by decide) rfl ?_
  intro p e s m args below meth c s₁ B hml hv
  obtain ⟨rfl, hsz, hP, hK, hD0, hE⟩ := hv
  have hx := B.exec
  have hb := B.bytes
  have hr := B.returns
  have hts := atoms_spec (ws := w_Wall_makeFree) B.pre
  have hown : s.vm.findClass R_Wall = some m.cls := findClass_of_methodNamed B.named
  have hlocks := B.notSynchronized
  have hn_Wall : ∀ w ∈ u_ws R_Wall F_Wall 4, w ∈ w_Wall_makeFree := (fun w h => List.mem_cons_of_mem _ (i_Wall w h))
  have hL15 := hts (.fieldLink R_Wall 15 "RoomFills$Wall" "free" "[Z") (List.mem_cons_of_mem _ m_97)
  subst hsz
  have hD := hD0.self (sz := s.heap.size)
  generalize hAe : va_A [(ad 2, .inr (1, [.int v_wall_steps, .ref (ad 3), .ref (ad 4), .int v_wall_pipeCount])), (ad 3, .inl (ki 2, n_wfree, .inl v_wfree))] s.heap.size = A at hD ⊢
  have hA : ∀ q : Nat, s.heap.size ≤ q → A q := fun q h => by rw [← hAe]; exact Or.inr h
  have hS : va_S A s.heap s.heap [] := va_S.rf
  replace hP : va_P D vwCl [(ad 2, .inr (1, [.int v_wall_steps, .ref (ad 3), .ref (ad 4), .int v_wall_pipeCount])), (ad 3, .inl (ki 2, n_wfree, .inl v_wfree))] s.heap := hP
  have hl := lv_entry ([.ref (ad 2), .int p1, .int p2]) (n := 5) (Nat.le_of_ble_eq_true rfl)
  rw [lg_entry_eq]
  generalize (lg_sl ([.ref (ad 2), .int p1, .int p2]) ++ List.replicate (5 - (lg_sl ([.ref (ad 2), .int p1, .int p2])).length) Slot.unset).toArray = ls at hl ⊢
  replace hl : lv_has ls 5 [(0, .ref (ad 2)), (1, .int p1), (2, .int p2)] := hl
  have key : ∀ n : Nat, (∀ (x1 : Int32) (x2 : Int32) (x3 : Bool) (x4 : Int32) (v_wfree : Nat → Int32), f_Wall_makeFree_cut N n_wfree v_wall_steps v_wall_pipeCount n 0 x1 x2 x3 x4 v_wfree = some (r, ov_wfree) → ∀ (H : Heap) (locs : List Loc), va_P D vwCl [(ad 2, .inr (1, [.int v_wall_steps, .ref (ad 3), .ref (ad 4), .int v_wall_pipeCount])), (ad 3, .inl (ki 2, n_wfree, .inl v_wfree))] H → va_D A [(ad 2, .inr (1, [.int v_wall_steps, .ref (ad 3), .ref (ad 4), .int v_wall_pipeCount])), (ad 3, .inl (ki 2, n_wfree, .inl v_wfree))] → va_S A s.heap H locs → ∀ (ls : Array Slot), lv_has ls 5 [(0, .ref (ad 2)), (1, .int x1), (2, .int x2), (3, .int (bI x3)), (4, .int x4)] → W p l e (headSpec w_Wall_makeFree { frames := 0, cells := 0, slots := 0, locals := 0 }).room s m ([.ref (ad 2), .int p1, .int p2] : List Value).toArray below meth c H locs 0 0 (MQ below (q_Qm (some (.int (bI r))) D vwCl [(ad 2, .inr (1, [.int v_wall_steps, .ref (ad 3), .ref (ad 4), .int v_wall_pipeCount])), (ad 3, .inl (ki 2, n_wfree, .inl ov_wfree))] A) ([.ref (ad 2), .int p1, .int p2] : List Value).toArray s 0 0 A) (F0 m 5 ls [])) := by
    intro n
    induction n with
    | zero =>
      exact fun x1 x2 x3 x4 v_wfree hf => (nomatch (show none = some _ from hf))
    | succ n ih =>
      intro x1 x2 x3 x4 v_wfree hf H locs hP hD hS ls hl
      rw [f_Wall_makeFree_cut_0] at hf
      refine lv_iload hx hb d_Wall_makeFree_5 (lv_at hl 4 rfl) ?_
      refine lv_iload_n hx hb d_Wall_makeFree_7 rfl (lv_at hl 2 rfl) ?_
      refine lv_icmp_ge (tgt := 37) hx hb d_Wall_makeFree_8 (by decide) (fun c_1 => ?_) (fun c_1 => ?_)
      · replace hf := q_it hf c_1
        refine lv_iload_n hx hb d_Wall_makeFree_37 rfl (lv_at hl 3 rfl) ?_
        cases hf
        first | exact W.zret (v := bI x3) hx hb hr (bI_nar _) (fun t ht hW => ⟨rfl, by rw [ht]; exact hP, hS.F ht⟩) hS.2.2 d_Wall_makeFree_38 | exact W.zret (v := bI r) hx hb hr (bI_nar _) (fun t ht hW => ⟨rfl, by rw [ht]; exact hP, hS.F ht⟩) hS.2.2 d_Wall_makeFree_38
      replace hf := q_ie hf c_1
      refine lv_aload_n hx hb d_Wall_makeFree_11 rfl (lv_at hl 0 rfl) ?_
      refine va_get (D := D) (ci := 1) (v := .ref (ad 3)) (C := R_Wall) (T := F_Wall) (N := 4) hx hb hts hn_Wall hown hK hP 0 rfl rfl 1 (by decide) hL15 (fun _ h9 => h9) rfl d_Wall_makeFree_12 ?_
      refine lv_iload hx hb d_Wall_makeFree_15 (lv_at hl 4 rfl) ?_
      obtain ⟨hi_2, hf⟩ := q_ck hf
      refine va_zald hx hb hK hP 1 2 rfl rfl hi_2 d_Wall_makeFree_17 ?_
      refine lv_if_ne (tgt := 31) hx hb d_Wall_makeFree_18 (by decide) (fun c_3 => ?_) (fun c_3 => ?_)
      · replace hf := q_ie hf c_3
        refine lv_iinc (v := (x4 + 1)) (lv' := [(4, .int (x4 + 1)), (0, .ref (ad 2)), (1, .int x1), (2, .int x2), (3, .int (bI x3))]) hx hb d_Wall_makeFree_31 hl (k := 4) rfl rfl (by decide) rfl (fun ls hl => ?_)
        refine lv_goto (tgt := 5) hx hb d_Wall_makeFree_34 (by decide) ?_
        exact (ih) x1 x2 x3 (x4 + 1) v_wfree hf _ _ hP hD hS ls (lv_sub hl [1, 2, 3, 4, 0] rfl)
      replace hf := q_it hf c_3
      refine lv_aload_n hx hb d_Wall_makeFree_21 rfl (lv_at hl 0 rfl) ?_
      refine va_get (D := D) (ci := 1) (v := .ref (ad 3)) (C := R_Wall) (T := F_Wall) (N := 4) hx hb hts hn_Wall hown hK hP 0 rfl rfl 1 (by decide) hL15 (fun _ h9 => h9) rfl d_Wall_makeFree_22 ?_
      refine lv_iload hx hb d_Wall_makeFree_25 (lv_at hl 4 rfl) ?_
      refine lv_iconst (v := 1) hx hb d_Wall_makeFree_27 (by decide) ?_
      obtain ⟨hi_4, hf⟩ := q_ck hf
      refine va_zast hx hb hK hP hD hS 1 2 rfl rfl hi_4 d_Wall_makeFree_28 (fun H locs hP hD hS => ?_)
      replace hP : va_P D vwCl [(ad 2, .inr (1, [.int v_wall_steps, .ref (ad 3), .ref (ad 4), .int v_wall_pipeCount])), (ad 3, .inl (ki 2, n_wfree, .inl (upd v_wfree (Int32.toNatClampNeg x4) (vp_nar .boolean 1))))] H := hP
      replace hD : va_D A [(ad 2, .inr (1, [.int v_wall_steps, .ref (ad 3), .ref (ad 4), .int v_wall_pipeCount])), (ad 3, .inl (ki 2, n_wfree, .inl (upd v_wfree (Int32.toNatClampNeg x4) (vp_nar .boolean 1))))] := hD
      refine lv_iconst (v := 1) hx hb d_Wall_makeFree_29 (by decide) ?_
      refine lv_istore_n (lv' := [(3, .int (bI true)), (0, .ref (ad 2)), (1, .int x1), (2, .int x2), (4, .int x4)]) hx hb d_Wall_makeFree_30 rfl hl (by decide) rfl (fun ls hl => ?_)
      refine lv_iinc (v := (x4 + 1)) (lv' := [(4, .int (x4 + 1)), (3, .int (bI true)), (0, .ref (ad 2)), (1, .int x1), (2, .int x2)]) hx hb d_Wall_makeFree_31 hl (k := 4) rfl rfl (by decide) rfl (fun ls hl => ?_)
      refine lv_goto (tgt := 5) hx hb d_Wall_makeFree_34 (by decide) ?_
      exact (ih) x1 x2 true (x4 + 1) (upd v_wfree (Int32.toNatClampNeg x4) (vp_nar .boolean 1)) hf _ _ hP hD hS ls (lv_sub hl [2, 3, 4, 1, 0] rfl)
  unfold f_Wall_makeFree at hf
  refine lv_iconst (v := 0) hx hb d_Wall_makeFree_0 (by decide) ?_
  refine lv_istore_n (lv' := [(3, .int (bI false)), (0, .ref (ad 2)), (1, .int p1), (2, .int p2)]) hx hb d_Wall_makeFree_1 rfl hl (by decide) rfl (fun ls hl => ?_)
  refine lv_iload_n hx hb d_Wall_makeFree_2 rfl (lv_at hl 2 rfl) ?_
  refine lv_istore (lv' := [(4, .int p1), (3, .int (bI false)), (0, .ref (ad 2)), (1, .int p1), (2, .int p2)]) hx hb d_Wall_makeFree_3 hl (by decide) rfl (fun ls hl => ?_)
  exact (key N) p1 p2 false p1 v_wfree hf _ _ hP hD hS ls (lv_sub hl [2, 3, 4, 1, 0] rfl)
def f_Wall_hasPipeWithin_cut (N : Nat) (n_wpip : Nat) (v_wall_steps : Int32) (v_wall_pipeCount : Int32) (v_wpip : Nat → Int32) : Nat → Nat → Int32 → Int32 → Int32 → Int32 → Option (Bool)
  | 0, _, _, _, _, _ => none
  | n + 1, t, x1, x2, x3, x4 => (if v_wall_pipeCount ≤ x4 then (some false) else (if x4 < 0 ∨ n_wpip ≤ Int32.toNatClampNeg x4 then none else (if (v_wpip (Int32.toNatClampNeg x4)) < (x1 - x3) then (f_Wall_hasPipeWithin_cut N n_wpip v_wall_steps v_wall_pipeCount v_wpip n 0 x1 x2 x3 (x4 + 1)) else (if x4 < 0 ∨ n_wpip ≤ Int32.toNatClampNeg x4 then none else (if (((x1 + x2) - 1) + x3) < (v_wpip (Int32.toNatClampNeg x4)) then (f_Wall_hasPipeWithin_cut N n_wpip v_wall_steps v_wall_pipeCount v_wpip n 0 x1 x2 x3 (x4 + 1)) else (some true))))))
theorem f_Wall_hasPipeWithin_cut_0 (N : Nat) (n_wpip : Nat) (v_wall_steps : Int32) (v_wall_pipeCount : Int32) (v_wpip : Nat → Int32) (n : Nat) (x1 : Int32) (x2 : Int32) (x3 : Int32) (x4 : Int32) : f_Wall_hasPipeWithin_cut N n_wpip v_wall_steps v_wall_pipeCount v_wpip (n + 1) 0 x1 x2 x3 x4 = (if v_wall_pipeCount ≤ x4 then (some false) else (if x4 < 0 ∨ n_wpip ≤ Int32.toNatClampNeg x4 then none else (if (v_wpip (Int32.toNatClampNeg x4)) < (x1 - x3) then (f_Wall_hasPipeWithin_cut N n_wpip v_wall_steps v_wall_pipeCount v_wpip n 0 x1 x2 x3 (x4 + 1)) else (if x4 < 0 ∨ n_wpip ≤ Int32.toNatClampNeg x4 then none else (if (((x1 + x2) - 1) + x3) < (v_wpip (Int32.toNatClampNeg x4)) then (f_Wall_hasPipeWithin_cut N n_wpip v_wall_steps v_wall_pipeCount v_wpip n 0 x1 x2 x3 (x4 + 1)) else (some true)))))) := rfl
def f_Wall_hasPipeWithin (N : Nat) (n_wpip : Nat) (v_wall_steps : Int32) (v_wall_pipeCount : Int32) (v_wpip : Nat → Int32) (p1 : Int32) (p2 : Int32) (p3 : Int32) : Option (Bool) := (f_Wall_hasPipeWithin_cut N n_wpip v_wall_steps v_wall_pipeCount v_wpip N 0 p1 p2 p3 0)
set_option maxRecDepth 100000 in
set_option maxHeartbeats 4000000 in
theorem c_Wall_hasPipeWithin (l : Launch) (D : va_G) (ad : Nat → Nat) (ki : Nat → ClassId) (n_wpip : Nat) (v_wall_steps : Int32) (v_wall_pipeCount : Int32) (v_wpip : Nat → Int32) (p1 : Int32) (p2 : Int32) (p3 : Int32) (N : Nat) (r : Bool) (hf : f_Wall_hasPipeWithin N n_wpip v_wall_steps v_wall_pipeCount v_wpip p1 p2 p3 = some r) : Met l y_Wall_hasPipeWithin w_Wall_hasPipeWithin { frames := 0, cells := 0, slots := 0, locals := 0 } (q_PcP [.ref (ad 2), .int p1, .int p2, .int p3] D vwCl [(ad 2, .inr (1, [.int v_wall_steps, .ref (ad 3), .ref (ad 4), .int v_wall_pipeCount])), (ad 4, .inl (ki 0, n_wpip, .inl v_wpip))] (TYS ki)) (k2_QcV (.int (bI r))) 0 0 (fun _ => False) := by
  refine Met.ofW (cc := b_Wall_hasPipeWithin) (maxL := 5) (ret := (some .boolean)) (by decide) rfl ?_
  intro p e s m args below meth c s₁ B hml hv
  obtain ⟨rfl, hP, hK, hE⟩ := hv
  have hx := B.exec
  have hb := B.bytes
  have hr := B.returns
  have hts := atoms_spec (ws := w_Wall_hasPipeWithin) B.pre
  have hown : s.vm.findClass R_Wall = some m.cls := findClass_of_methodNamed B.named
  have hlocks := B.notSynchronized
  have hn_Wall : ∀ w ∈ u_ws R_Wall F_Wall 4, w ∈ w_Wall_hasPipeWithin := (fun w h => List.mem_cons_of_mem _ (i_Wall w h))
  have hL19 := hts (.fieldLink R_Wall 19 "RoomFills$Wall" "pipes" "[I") (List.mem_cons_of_mem _ m_100)
  have hL23 := hts (.fieldLink R_Wall 23 "RoomFills$Wall" "pipeCount" "I") (List.mem_cons_of_mem _ m_101)
  replace hP : va_P D vwCl [(ad 2, .inr (1, [.int v_wall_steps, .ref (ad 3), .ref (ad 4), .int v_wall_pipeCount])), (ad 4, .inl (ki 0, n_wpip, .inl v_wpip))] s.heap := hP
  have hl := lv_entry ([.ref (ad 2), .int p1, .int p2, .int p3]) (n := 5) (Nat.le_of_ble_eq_true rfl)
  rw [lg_entry_eq]
  generalize (lg_sl ([.ref (ad 2), .int p1, .int p2, .int p3]) ++ List.replicate (5 - (lg_sl ([.ref (ad 2), .int p1, .int p2, .int p3])).length) Slot.unset).toArray = ls at hl ⊢
  replace hl : lv_has ls 5 [(0, .ref (ad 2)), (1, .int p1), (2, .int p2), (3, .int p3)] := hl
  have key : ∀ n : Nat, (∀ (x1 : Int32) (x2 : Int32) (x3 : Int32) (x4 : Int32), f_Wall_hasPipeWithin_cut N n_wpip v_wall_steps v_wall_pipeCount v_wpip n 0 x1 x2 x3 x4 = some r → ∀ (ls : Array Slot), lv_has ls 5 [(0, .ref (ad 2)), (1, .int x1), (2, .int x2), (3, .int x3), (4, .int x4)] → W p l e (headSpec w_Wall_hasPipeWithin { frames := 0, cells := 0, slots := 0, locals := 0 }).room s m ([.ref (ad 2), .int p1, .int p2, .int p3] : List Value).toArray below meth c s.heap [] 0 0 (MQ below (k2_QcV (.int (bI r))) ([.ref (ad 2), .int p1, .int p2, .int p3] : List Value).toArray s 0 0 (fun _ => False)) (F0 m 3 ls [])) := by
    intro n
    induction n with
    | zero =>
      exact fun x1 x2 x3 x4 hf => (nomatch (show none = some _ from hf))
    | succ n ih =>
      intro x1 x2 x3 x4 hf ls hl
      rw [f_Wall_hasPipeWithin_cut_0] at hf
      refine lv_iload hx hb d_Wall_hasPipeWithin_3 (lv_at hl 4 rfl) ?_
      refine lv_aload_n hx hb d_Wall_hasPipeWithin_5 rfl (lv_at hl 0 rfl) ?_
      refine va_get (D := D) (ci := 1) (v := .int v_wall_pipeCount) (C := R_Wall) (T := F_Wall) (N := 4) hx hb hts hn_Wall hown hK hP 0 rfl rfl 3 (by decide) hL23 (fun _ h9 => h9) rfl d_Wall_hasPipeWithin_6 ?_
      refine lv_icmp_ge (tgt := 50) hx hb d_Wall_hasPipeWithin_9 (by decide) (fun c_1 => ?_) (fun c_1 => ?_)
      · replace hf := q_it hf c_1
        refine lv_iconst (v := 0) hx hb d_Wall_hasPipeWithin_50 (by decide) ?_
        cases hf
        exact W.zret (v := bI false) hx hb hr (bI_nar _) (fun t ht hW => ⟨rfl, ht⟩) (fun q h => nomatch h) d_Wall_hasPipeWithin_51
      replace hf := q_ie hf c_1
      refine lv_aload_n hx hb d_Wall_hasPipeWithin_12 rfl (lv_at hl 0 rfl) ?_
      refine va_get (D := D) (ci := 1) (v := .ref (ad 4)) (C := R_Wall) (T := F_Wall) (N := 4) hx hb hts hn_Wall hown hK hP 0 rfl rfl 2 (by decide) hL19 (fun _ h9 => h9) rfl d_Wall_hasPipeWithin_13 ?_
      refine lv_iload hx hb d_Wall_hasPipeWithin_16 (lv_at hl 4 rfl) ?_
      obtain ⟨hi_2, hf⟩ := q_ck hf
      refine va_iald hx hb hK hP 1 0 rfl rfl hi_2 d_Wall_hasPipeWithin_18 ?_
      refine lv_iload_n hx hb d_Wall_hasPipeWithin_19 rfl (lv_at hl 1 rfl) ?_
      refine lv_iload_n hx hb d_Wall_hasPipeWithin_20 rfl (lv_at hl 3 rfl) ?_
      refine lv_isub hx hb d_Wall_hasPipeWithin_21 ?_
      refine lv_icmp_lt (tgt := 44) hx hb d_Wall_hasPipeWithin_22 (by decide) (fun c_3 => ?_) (fun c_3 => ?_)
      · replace hf := q_it hf c_3
        refine lv_iinc (v := (x4 + 1)) (lv' := [(4, .int (x4 + 1)), (0, .ref (ad 2)), (1, .int x1), (2, .int x2), (3, .int x3)]) hx hb d_Wall_hasPipeWithin_44 hl (k := 4) rfl rfl (by decide) rfl (fun ls hl => ?_)
        refine lv_goto (tgt := 3) hx hb d_Wall_hasPipeWithin_47 (by decide) ?_
        exact (ih) x1 x2 x3 (x4 + 1) hf ls (lv_sub hl [1, 2, 3, 4, 0] rfl)
      replace hf := q_ie hf c_3
      refine lv_aload_n hx hb d_Wall_hasPipeWithin_25 rfl (lv_at hl 0 rfl) ?_
      refine va_get (D := D) (ci := 1) (v := .ref (ad 4)) (C := R_Wall) (T := F_Wall) (N := 4) hx hb hts hn_Wall hown hK hP 0 rfl rfl 2 (by decide) hL19 (fun _ h9 => h9) rfl d_Wall_hasPipeWithin_26 ?_
      refine lv_iload hx hb d_Wall_hasPipeWithin_29 (lv_at hl 4 rfl) ?_
      obtain ⟨hi_4, hf⟩ := q_ck hf
      refine va_iald hx hb hK hP 1 0 rfl rfl hi_4 d_Wall_hasPipeWithin_31 ?_
      refine lv_iload_n hx hb d_Wall_hasPipeWithin_32 rfl (lv_at hl 1 rfl) ?_
      refine lv_iload_n hx hb d_Wall_hasPipeWithin_33 rfl (lv_at hl 2 rfl) ?_
      refine lv_iadd hx hb d_Wall_hasPipeWithin_34 ?_
      refine lv_iconst (v := 1) hx hb d_Wall_hasPipeWithin_35 (by decide) ?_
      refine lv_isub hx hb d_Wall_hasPipeWithin_36 ?_
      refine lv_iload_n hx hb d_Wall_hasPipeWithin_37 rfl (lv_at hl 3 rfl) ?_
      refine lv_iadd hx hb d_Wall_hasPipeWithin_38 ?_
      refine lv_icmp_gt (tgt := 44) hx hb d_Wall_hasPipeWithin_39 (by decide) (fun c_5 => ?_) (fun c_5 => ?_)
      · replace hf := q_it hf c_5
        refine lv_iinc (v := (x4 + 1)) (lv' := [(4, .int (x4 + 1)), (0, .ref (ad 2)), (1, .int x1), (2, .int x2), (3, .int x3)]) hx hb d_Wall_hasPipeWithin_44 hl (k := 4) rfl rfl (by decide) rfl (fun ls hl => ?_)
        refine lv_goto (tgt := 3) hx hb d_Wall_hasPipeWithin_47 (by decide) ?_
        exact (ih) x1 x2 x3 (x4 + 1) hf ls (lv_sub hl [1, 2, 3, 4, 0] rfl)
      replace hf := q_ie hf c_5
      refine lv_iconst (v := 1) hx hb d_Wall_hasPipeWithin_42 (by decide) ?_
      cases hf
      exact W.zret (v := bI true) hx hb hr (bI_nar _) (fun t ht hW => ⟨rfl, ht⟩) (fun q h => nomatch h) d_Wall_hasPipeWithin_43
  unfold f_Wall_hasPipeWithin at hf
  refine lv_iconst (v := 0) hx hb d_Wall_hasPipeWithin_0 (by decide) ?_
  refine lv_istore (lv' := [(4, .int 0), (0, .ref (ad 2)), (1, .int p1), (2, .int p2), (3, .int p3)]) hx hb d_Wall_hasPipeWithin_1 hl (by decide) rfl (fun ls hl => ?_)
  exact (key N) p1 p2 p3 0 hf ls (lv_sub hl [1, 2, 3, 4, 0] rfl)
def f_Wall_addPipe (N : Nat) (n_wpip : Nat) (v_wall_steps : Int32) (v_wall_pipeCount : Int32) (v_wpip : Nat → Int32) (p1 : Int32) : Option (Bool × Int32 × (Nat → Int32)) := (if (8 : Int32) ≤ v_wall_pipeCount then (some (false, v_wall_pipeCount, v_wpip)) else (Option.bind (f_Wall_hasPipeWithin N n_wpip v_wall_steps v_wall_pipeCount v_wpip p1 1 0) (fun r_2 => (if r_2 = true then (some (false, v_wall_pipeCount, v_wpip)) else (if v_wall_pipeCount < 0 ∨ n_wpip ≤ Int32.toNatClampNeg v_wall_pipeCount then none else (some (true, (v_wall_pipeCount + 1), (upd v_wpip (Int32.toNatClampNeg v_wall_pipeCount) p1))))))))
set_option maxRecDepth 100000 in
set_option maxHeartbeats 4000000 in
theorem c_Wall_addPipe (l : Launch) (D : va_G) (ad : Nat → Nat) (ki : Nat → ClassId) (n_wpip : Nat) (v_wall_steps : Int32) (v_wall_pipeCount : Int32) (v_wpip : Nat → Int32) (p1 : Int32) (N : Nat) (sz : Nat) (r : Bool) (ov_wall_pipeCount : Int32) (ov_wpip : Nat → Int32) (hf : f_Wall_addPipe N n_wpip v_wall_steps v_wall_pipeCount v_wpip p1 = some (r, ov_wall_pipeCount, ov_wpip)) : Met l y_Wall_addPipe w_Wall_addPipe { frames := 1, cells := 0, slots := 0, locals := 24 } (q_PcM [.ref (ad 2), .int p1] D vwCl [(ad 2, .inr (1, [.int v_wall_steps, .ref (ad 3), .ref (ad 4), .int v_wall_pipeCount])), (ad 4, .inl (ki 0, n_wpip, .inl v_wpip))] (TYS ki) sz) (q_Qm (some (.int (bI r))) D vwCl [(ad 2, .inr (1, [.int v_wall_steps, .ref (ad 3), .ref (ad 4), .int ov_wall_pipeCount])), (ad 4, .inl (ki 0, n_wpip, .inl ov_wpip))] (va_A [(ad 2, .inr (1, [.int v_wall_steps, .ref (ad 3), .ref (ad 4), .int v_wall_pipeCount])), (ad 4, .inl (ki 0, n_wpip, .inl v_wpip))] sz)) 0 0 (va_A [(ad 2, .inr (1, [.int v_wall_steps, .ref (ad 3), .ref (ad 4), .int v_wall_pipeCount])), (ad 4, .inl (ki 0, n_wpip, .inl v_wpip))] sz) := by
  refine Met.ofW (cc := b_Wall_addPipe) (maxL := 2) (ret := (some .boolean)) (by decide) rfl ?_
  intro p e s m args below meth c s₁ B hml hv
  obtain ⟨rfl, hsz, hP, hK, hD0, hE⟩ := hv
  have hx := B.exec
  have hb := B.bytes
  have hr := B.returns
  have hts := atoms_spec (ws := w_Wall_addPipe) B.pre
  have hown : s.vm.findClass R_Wall = some m.cls := findClass_of_methodNamed B.named
  have hlocks := B.notSynchronized
  have hn_Wall : ∀ w ∈ u_ws R_Wall F_Wall 4, w ∈ w_Wall_addPipe := (fun w h => List.mem_cons_of_mem _ (i_Wall w h))
  have hL19 := hts (.fieldLink R_Wall 19 "RoomFills$Wall" "pipes" "[I") (List.mem_cons_of_mem _ m_100)
  have hL23 := hts (.fieldLink R_Wall 23 "RoomFills$Wall" "pipeCount" "I") (List.mem_cons_of_mem _ m_101)
  subst hsz
  have hD := hD0.self (sz := s.heap.size)
  generalize hAe : va_A [(ad 2, .inr (1, [.int v_wall_steps, .ref (ad 3), .ref (ad 4), .int v_wall_pipeCount])), (ad 4, .inl (ki 0, n_wpip, .inl v_wpip))] s.heap.size = A at hD ⊢
  have hA : ∀ q : Nat, s.heap.size ≤ q → A q := fun q h => by rw [← hAe]; exact Or.inr h
  have hS : va_S A s.heap s.heap [] := va_S.rf
  replace hP : va_P D vwCl [(ad 2, .inr (1, [.int v_wall_steps, .ref (ad 3), .ref (ad 4), .int v_wall_pipeCount])), (ad 4, .inl (ki 0, n_wpip, .inl v_wpip))] s.heap := hP
  have hl := lv_entry ([.ref (ad 2), .int p1]) (n := 2) (Nat.le_of_ble_eq_true rfl)
  rw [lg_entry_eq]
  generalize (lg_sl ([.ref (ad 2), .int p1]) ++ List.replicate (2 - (lg_sl ([.ref (ad 2), .int p1])).length) Slot.unset).toArray = ls at hl ⊢
  replace hl : lv_has ls 2 [(0, .ref (ad 2)), (1, .int p1)] := hl
  unfold f_Wall_addPipe at hf
  refine lv_aload_n hx hb d_Wall_addPipe_0 rfl (lv_at hl 0 rfl) ?_
  refine va_get (D := D) (ci := 1) (v := .int v_wall_pipeCount) (C := R_Wall) (T := F_Wall) (N := 4) hx hb hts hn_Wall hown hK hP 0 rfl rfl 3 (by decide) hL23 (fun _ h9 => h9) rfl d_Wall_addPipe_1 ?_
  refine lv_bipush (v := 8) hx hb d_Wall_addPipe_4 (by decide) ?_
  refine lv_icmp_ge (tgt := 19) hx hb d_Wall_addPipe_6 (by decide) (fun c_1 => ?_) (fun c_1 => ?_)
  · replace hf := q_it hf c_1
    refine lv_iconst (v := 0) hx hb d_Wall_addPipe_19 (by decide) ?_
    cases hf
    exact W.zret (v := bI false) hx hb hr (bI_nar _) (fun t ht hW => ⟨rfl, by rw [ht]; exact hP, hS.F ht⟩) hS.2.2 d_Wall_addPipe_20
  replace hf := q_ie hf c_1
  refine lv_aload_n hx hb d_Wall_addPipe_9 rfl (lv_at hl 0 rfl) ?_
  refine lv_iload_n hx hb d_Wall_addPipe_10 rfl (lv_at hl 1 rfl) ?_
  refine lv_iconst (v := 1) hx hb d_Wall_addPipe_11 (by decide) ?_
  refine lv_iconst (v := 0) hx hb d_Wall_addPipe_12 (by decide) ?_
  obtain ⟨r_2, hc_2, hf⟩ := q_mb hf
  refine q_pcall (W.runV (As := [.int p1, .int 1, .int 0]) (rest := []) ⟨hx, hb, hml, hown, hts⟩ (c_Wall_hasPipeWithin l D ad ki n_wpip v_wall_steps v_wall_pipeCount v_wpip p1 1 0 N r_2 hc_2) (cwV 3 hts (q_goodV ⟨m_659, m_381, m_382, m_55⟩ m_383) rfl rfl rfl (by decide +kernel) ⟨Nat.le_of_ble_eq_true rfl, Nat.le_of_ble_eq_true rfl⟩) (q_preVP (wc := [(ad 2, .inr (1, [.int v_wall_steps, .ref (ad 3), .ref (ad 4), .int v_wall_pipeCount])), (ad 4, .inl (ki 0, n_wpip, .inl v_wpip))]) hE hK hP [0, 1] rfl 0 1 rfl rfl) rfl rfl hl.1 rfl (lv_room (Nat.le_of_ble_eq_true rfl)) d_Wall_addPipe_13 ⟨Nat.le_of_ble_eq_true rfl, Nat.le_of_ble_eq_true rfl⟩) ?_
  refine zv_eq (tgt := 21) hx hb d_Wall_addPipe_16 (by decide) (fun c_3 => ?_) (fun c_3 => ?_)
  · replace hf := q_ie hf c_3
    refine lv_aload_n hx hb d_Wall_addPipe_21 rfl (lv_at hl 0 rfl) ?_
    refine va_get (D := D) (ci := 1) (v := .ref (ad 4)) (C := R_Wall) (T := F_Wall) (N := 4) hx hb hts hn_Wall hown hK hP 0 rfl rfl 2 (by decide) hL19 (fun _ h9 => h9) rfl d_Wall_addPipe_22 ?_
    refine lv_aload_n hx hb d_Wall_addPipe_25 rfl (lv_at hl 0 rfl) ?_
    refine va_get (D := D) (ci := 1) (v := .int v_wall_pipeCount) (C := R_Wall) (T := F_Wall) (N := 4) hx hb hts hn_Wall hown hK hP 0 rfl rfl 3 (by decide) hL23 (fun _ h9 => h9) rfl d_Wall_addPipe_26 ?_
    refine lv_iload_n hx hb d_Wall_addPipe_29 rfl (lv_at hl 1 rfl) ?_
    obtain ⟨hi_4, hf⟩ := q_ck hf
    refine va_iast hx hb hK hP hD hS 1 0 rfl rfl hi_4 d_Wall_addPipe_30 (fun H locs hP hD hS => ?_)
    replace hP : va_P D vwCl [(ad 2, .inr (1, [.int v_wall_steps, .ref (ad 3), .ref (ad 4), .int v_wall_pipeCount])), (ad 4, .inl (ki 0, n_wpip, .inl (upd v_wpip (Int32.toNatClampNeg v_wall_pipeCount) p1)))] H := hP
    replace hD : va_D A [(ad 2, .inr (1, [.int v_wall_steps, .ref (ad 3), .ref (ad 4), .int v_wall_pipeCount])), (ad 4, .inl (ki 0, n_wpip, .inl (upd v_wpip (Int32.toNatClampNeg v_wall_pipeCount) p1)))] := hD
    refine lv_aload_n hx hb d_Wall_addPipe_31 rfl (lv_at hl 0 rfl) ?_
    refine lv_dup hx hb d_Wall_addPipe_32 rfl ?_
    refine va_get (D := D) (ci := 1) (v := .int v_wall_pipeCount) (C := R_Wall) (T := F_Wall) (N := 4) hx hb hts hn_Wall hown hK hP 0 rfl rfl 3 (by decide) hL23 (fun _ h9 => h9) rfl d_Wall_addPipe_33 ?_
    refine lv_iconst (v := 1) hx hb d_Wall_addPipe_36 (by decide) ?_
    refine lv_iadd hx hb d_Wall_addPipe_37 ?_
    refine va_put (D := D) (ci := 1) (v := .int (v_wall_pipeCount + 1)) (ty := .int) (C := R_Wall) (T := F_Wall) (N := 4) hx hb hts hn_Wall t_Wall t_Wall_ok n_Wall hown hK hP hD hS 0 rfl rfl 3 (by decide) hL23 (fun _ h9 => h9) rfl (by decide +kernel) rfl rfl (Nat.le_of_ble_eq_true rfl) d_Wall_addPipe_38 (fun H locs hP hD hS => ?_)
    replace hP : va_P D vwCl [(ad 2, .inr (1, [.int v_wall_steps, .ref (ad 3), .ref (ad 4), .int (v_wall_pipeCount + 1)])), (ad 4, .inl (ki 0, n_wpip, .inl (upd v_wpip (Int32.toNatClampNeg v_wall_pipeCount) p1)))] H := hP
    replace hD : va_D A [(ad 2, .inr (1, [.int v_wall_steps, .ref (ad 3), .ref (ad 4), .int (v_wall_pipeCount + 1)])), (ad 4, .inl (ki 0, n_wpip, .inl (upd v_wpip (Int32.toNatClampNeg v_wall_pipeCount) p1)))] := hD
    refine lv_iconst (v := 1) hx hb d_Wall_addPipe_41 (by decide) ?_
    cases hf
    exact W.zret (v := bI true) hx hb hr (bI_nar _) (fun t ht hW => ⟨rfl, by rw [ht]; exact hP, hS.F ht⟩) hS.2.2 d_Wall_addPipe_42
  replace hf := q_it hf c_3
  refine lv_iconst (v := 0) hx hb d_Wall_addPipe_19 (by decide) ?_
  cases hf
  exact W.zret (v := bI false) hx hb hr (bI_nar _) (fun t ht hW => ⟨rfl, by rw [ht]; exact hP, hS.F ht⟩) hS.2.2 d_Wall_addPipe_20
def f_Wall_holds (N : Nat) (v_wall_steps : Int32) (v_wall_pipeCount : Int32) (p1 : Int32) (p2 : Int32) : Option (Bool) := (if p1 < 0 then (some false) else (if v_wall_steps < (p1 + p2) then (some false) else (some true)))
set_option maxRecDepth 100000 in
set_option maxHeartbeats 4000000 in
theorem c_Wall_holds (l : Launch) (D : va_G) (ad : Nat → Nat) (ki : Nat → ClassId) (v_wall_steps : Int32) (v_wall_pipeCount : Int32) (p1 : Int32) (p2 : Int32) (N : Nat) (r : Bool) (hf : f_Wall_holds N v_wall_steps v_wall_pipeCount p1 p2 = some r) : Met l y_Wall_holds w_Wall_holds { frames := 0, cells := 0, slots := 0, locals := 0 } (q_PcP [.ref (ad 2), .int p1, .int p2] D vwCl [(ad 2, .inr (1, [.int v_wall_steps, .ref (ad 3), .ref (ad 4), .int v_wall_pipeCount]))] (TYS ki)) (k2_QcV (.int (bI r))) 0 0 (fun _ => False) := by
  refine Met.ofW (cc := b_Wall_holds) (maxL := 3) (ret := (some .boolean)) (by decide) rfl ?_
  intro p e s m args below meth c s₁ B hml hv
  obtain ⟨rfl, hP, hK, hE⟩ := hv
  have hx := B.exec
  have hb := B.bytes
  have hr := B.returns
  have hts := atoms_spec (ws := w_Wall_holds) B.pre
  have hown : s.vm.findClass R_Wall = some m.cls := findClass_of_methodNamed B.named
  have hlocks := B.notSynchronized
  have hn_Wall : ∀ w ∈ u_ws R_Wall F_Wall 4, w ∈ w_Wall_holds := (fun w h => List.mem_cons_of_mem _ (i_Wall w h))
  have hL9 := hts (.fieldLink R_Wall 9 "RoomFills$Wall" "steps" "I") (List.mem_cons_of_mem _ m_92)
  replace hP : va_P D vwCl [(ad 2, .inr (1, [.int v_wall_steps, .ref (ad 3), .ref (ad 4), .int v_wall_pipeCount]))] s.heap := hP
  have hl := lv_entry ([.ref (ad 2), .int p1, .int p2]) (n := 3) (Nat.le_of_ble_eq_true rfl)
  rw [lg_entry_eq]
  generalize (lg_sl ([.ref (ad 2), .int p1, .int p2]) ++ List.replicate (3 - (lg_sl ([.ref (ad 2), .int p1, .int p2])).length) Slot.unset).toArray = ls at hl ⊢
  replace hl : lv_has ls 3 [(0, .ref (ad 2)), (1, .int p1), (2, .int p2)] := hl
  unfold f_Wall_holds at hf
  refine lv_iload_n hx hb d_Wall_holds_0 rfl (lv_at hl 1 rfl) ?_
  refine lv_if_lt (tgt := 18) hx hb d_Wall_holds_1 (by decide) (fun c_1 => ?_) (fun c_1 => ?_)
  · replace hf := q_it hf c_1
    refine lv_iconst (v := 0) hx hb d_Wall_holds_18 (by decide) ?_
    cases hf
    exact W.zret (v := bI false) hx hb hr (bI_nar _) (fun t ht hW => ⟨rfl, ht⟩) (fun q h => nomatch h) d_Wall_holds_19
  replace hf := q_ie hf c_1
  refine lv_iload_n hx hb d_Wall_holds_4 rfl (lv_at hl 1 rfl) ?_
  refine lv_iload_n hx hb d_Wall_holds_5 rfl (lv_at hl 2 rfl) ?_
  refine lv_iadd hx hb d_Wall_holds_6 ?_
  refine lv_aload_n hx hb d_Wall_holds_7 rfl (lv_at hl 0 rfl) ?_
  refine va_get (D := D) (ci := 1) (v := .int v_wall_steps) (C := R_Wall) (T := F_Wall) (N := 4) hx hb hts hn_Wall hown hK hP 0 rfl rfl 0 (by decide) hL9 (fun _ h9 => h9) rfl d_Wall_holds_8 ?_
  refine lv_icmp_gt (tgt := 18) hx hb d_Wall_holds_11 (by decide) (fun c_2 => ?_) (fun c_2 => ?_)
  · replace hf := q_it hf c_2
    refine lv_iconst (v := 0) hx hb d_Wall_holds_18 (by decide) ?_
    cases hf
    exact W.zret (v := bI false) hx hb hr (bI_nar _) (fun t ht hW => ⟨rfl, ht⟩) (fun q h => nomatch h) d_Wall_holds_19
  replace hf := q_ie hf c_2
  refine lv_iconst (v := 1) hx hb d_Wall_holds_14 (by decide) ?_
  refine lv_goto (tgt := 19) hx hb d_Wall_holds_15 (by decide) ?_
  cases hf
  exact W.zret (v := bI true) hx hb hr (bI_nar _) (fun t ht hW => ⟨rfl, ht⟩) (fun q h => nomatch h) d_Wall_holds_19
def f_Wall_stepsBeforeFree_cut (N : Nat) (n_wfree : Nat) (v_wall_steps : Int32) (v_wall_pipeCount : Int32) (v_wfree : Nat → Int32) : Nat → Nat → Int32 → Int32 → Option (Int32)
  | 0, _, _, _ => none
  | n + 1, t, x1, x2 => (if v_wall_steps ≤ x2 then (some (x2 - x1)) else (if x2 < 0 ∨ n_wfree ≤ Int32.toNatClampNeg x2 then none else (if (v_wfree (Int32.toNatClampNeg x2)) = 0 then (f_Wall_stepsBeforeFree_cut N n_wfree v_wall_steps v_wall_pipeCount v_wfree n 0 x1 (x2 + 1)) else (some (x2 - x1)))))
theorem f_Wall_stepsBeforeFree_cut_0 (N : Nat) (n_wfree : Nat) (v_wall_steps : Int32) (v_wall_pipeCount : Int32) (v_wfree : Nat → Int32) (n : Nat) (x1 : Int32) (x2 : Int32) : f_Wall_stepsBeforeFree_cut N n_wfree v_wall_steps v_wall_pipeCount v_wfree (n + 1) 0 x1 x2 = (if v_wall_steps ≤ x2 then (some (x2 - x1)) else (if x2 < 0 ∨ n_wfree ≤ Int32.toNatClampNeg x2 then none else (if (v_wfree (Int32.toNatClampNeg x2)) = 0 then (f_Wall_stepsBeforeFree_cut N n_wfree v_wall_steps v_wall_pipeCount v_wfree n 0 x1 (x2 + 1)) else (some (x2 - x1))))) := rfl
def f_Wall_stepsBeforeFree (N : Nat) (n_wfree : Nat) (v_wall_steps : Int32) (v_wall_pipeCount : Int32) (v_wfree : Nat → Int32) (p1 : Int32) : Option (Int32) := (f_Wall_stepsBeforeFree_cut N n_wfree v_wall_steps v_wall_pipeCount v_wfree N 0 p1 p1)
set_option maxRecDepth 100000 in
set_option maxHeartbeats 4000000 in
theorem c_Wall_stepsBeforeFree (l : Launch) (D : va_G) (ad : Nat → Nat) (ki : Nat → ClassId) (n_wfree : Nat) (v_wall_steps : Int32) (v_wall_pipeCount : Int32) (v_wfree : Nat → Int32) (p1 : Int32) (N : Nat) (r : Int32) (hf : f_Wall_stepsBeforeFree N n_wfree v_wall_steps v_wall_pipeCount v_wfree p1 = some r) : Met l y_Wall_stepsBeforeFree w_Wall_stepsBeforeFree { frames := 0, cells := 0, slots := 0, locals := 0 } (q_PcP [.ref (ad 2), .int p1] D vwCl [(ad 2, .inr (1, [.int v_wall_steps, .ref (ad 3), .ref (ad 4), .int v_wall_pipeCount])), (ad 3, .inl (ki 2, n_wfree, .inl v_wfree))] (TYS ki)) (k2_QcV (.int r)) 0 0 (fun _ => False) := by
  refine Met.ofW (cc := b_Wall_stepsBeforeFree) (maxL := 3) (ret := (some .int)) (by decide) rfl ?_
  intro p e s m args below meth c s₁ B hml hv
  obtain ⟨rfl, hP, hK, hE⟩ := hv
  have hx := B.exec
  have hb := B.bytes
  have hr := B.returns
  have hts := atoms_spec (ws := w_Wall_stepsBeforeFree) B.pre
  have hown : s.vm.findClass R_Wall = some m.cls := findClass_of_methodNamed B.named
  have hlocks := B.notSynchronized
  have hn_Wall : ∀ w ∈ u_ws R_Wall F_Wall 4, w ∈ w_Wall_stepsBeforeFree := (fun w h => List.mem_cons_of_mem _ (i_Wall w h))
  have hL9 := hts (.fieldLink R_Wall 9 "RoomFills$Wall" "steps" "I") (List.mem_cons_of_mem _ m_92)
  have hL15 := hts (.fieldLink R_Wall 15 "RoomFills$Wall" "free" "[Z") (List.mem_cons_of_mem _ m_97)
  replace hP : va_P D vwCl [(ad 2, .inr (1, [.int v_wall_steps, .ref (ad 3), .ref (ad 4), .int v_wall_pipeCount])), (ad 3, .inl (ki 2, n_wfree, .inl v_wfree))] s.heap := hP
  have hl := lv_entry ([.ref (ad 2), .int p1]) (n := 3) (Nat.le_of_ble_eq_true rfl)
  rw [lg_entry_eq]
  generalize (lg_sl ([.ref (ad 2), .int p1]) ++ List.replicate (3 - (lg_sl ([.ref (ad 2), .int p1])).length) Slot.unset).toArray = ls at hl ⊢
  replace hl : lv_has ls 3 [(0, .ref (ad 2)), (1, .int p1)] := hl
  have key : ∀ n : Nat, (∀ (x1 : Int32) (x2 : Int32), f_Wall_stepsBeforeFree_cut N n_wfree v_wall_steps v_wall_pipeCount v_wfree n 0 x1 x2 = some r → ∀ (ls : Array Slot), lv_has ls 3 [(0, .ref (ad 2)), (1, .int x1), (2, .int x2)] → W p l e (headSpec w_Wall_stepsBeforeFree { frames := 0, cells := 0, slots := 0, locals := 0 }).room s m ([.ref (ad 2), .int p1] : List Value).toArray below meth c s.heap [] 0 0 (MQ below (k2_QcV (.int r)) ([.ref (ad 2), .int p1] : List Value).toArray s 0 0 (fun _ => False)) (F0 m 2 ls [])) := by
    intro n
    induction n with
    | zero =>
      exact fun x1 x2 hf => (nomatch (show none = some _ from hf))
    | succ n ih =>
      intro x1 x2 hf ls hl
      rw [f_Wall_stepsBeforeFree_cut_0] at hf
      refine lv_iload_n hx hb d_Wall_stepsBeforeFree_2 rfl (lv_at hl 2 rfl) ?_
      refine lv_aload_n hx hb d_Wall_stepsBeforeFree_3 rfl (lv_at hl 0 rfl) ?_
      refine va_get (D := D) (ci := 1) (v := .int v_wall_steps) (C := R_Wall) (T := F_Wall) (N := 4) hx hb hts hn_Wall hown hK hP 0 rfl rfl 0 (by decide) hL9 (fun _ h9 => h9) rfl d_Wall_stepsBeforeFree_4 ?_
      refine lv_icmp_ge (tgt := 25) hx hb d_Wall_stepsBeforeFree_7 (by decide) (fun c_1 => ?_) (fun c_1 => ?_)
      · replace hf := q_it hf c_1
        refine lv_iload_n hx hb d_Wall_stepsBeforeFree_25 rfl (lv_at hl 2 rfl) ?_
        refine lv_iload_n hx hb d_Wall_stepsBeforeFree_26 rfl (lv_at hl 1 rfl) ?_
        refine lv_isub hx hb d_Wall_stepsBeforeFree_27 ?_
        cases hf
        exact W.iret (v := (x2 - x1)) hx hb hr (fun t ht hW => ⟨rfl, ht⟩) (fun q h => nomatch h) d_Wall_stepsBeforeFree_28
      replace hf := q_ie hf c_1
      refine lv_aload_n hx hb d_Wall_stepsBeforeFree_10 rfl (lv_at hl 0 rfl) ?_
      refine va_get (D := D) (ci := 1) (v := .ref (ad 3)) (C := R_Wall) (T := F_Wall) (N := 4) hx hb hts hn_Wall hown hK hP 0 rfl rfl 1 (by decide) hL15 (fun _ h9 => h9) rfl d_Wall_stepsBeforeFree_11 ?_
      refine lv_iload_n hx hb d_Wall_stepsBeforeFree_14 rfl (lv_at hl 2 rfl) ?_
      obtain ⟨hi_2, hf⟩ := q_ck hf
      refine va_zald hx hb hK hP 1 2 rfl rfl hi_2 d_Wall_stepsBeforeFree_15 ?_
      refine lv_if_ne (tgt := 25) hx hb d_Wall_stepsBeforeFree_16 (by decide) (fun c_3 => ?_) (fun c_3 => ?_)
      · replace hf := q_ie hf c_3
        refine lv_iload_n hx hb d_Wall_stepsBeforeFree_25 rfl (lv_at hl 2 rfl) ?_
        refine lv_iload_n hx hb d_Wall_stepsBeforeFree_26 rfl (lv_at hl 1 rfl) ?_
        refine lv_isub hx hb d_Wall_stepsBeforeFree_27 ?_
        cases hf
        exact W.iret (v := (x2 - x1)) hx hb hr (fun t ht hW => ⟨rfl, ht⟩) (fun q h => nomatch h) d_Wall_stepsBeforeFree_28
      replace hf := q_it hf c_3
      refine lv_iinc (v := (x2 + 1)) (lv' := [(2, .int (x2 + 1)), (0, .ref (ad 2)), (1, .int x1)]) hx hb d_Wall_stepsBeforeFree_19 hl (k := 2) rfl rfl (by decide) rfl (fun ls hl => ?_)
      refine lv_goto (tgt := 2) hx hb d_Wall_stepsBeforeFree_22 (by decide) ?_
      exact (ih) x1 (x2 + 1) hf ls (lv_sub hl [1, 2, 0] rfl)
  unfold f_Wall_stepsBeforeFree at hf
  refine lv_iload_n hx hb d_Wall_stepsBeforeFree_0 rfl (lv_at hl 1 rfl) ?_
  refine lv_istore_n (lv' := [(2, .int p1), (0, .ref (ad 2)), (1, .int p1)]) hx hb d_Wall_stepsBeforeFree_1 rfl hl (by decide) rfl (fun ls hl => ?_)
  exact (key N) p1 p1 hf ls (lv_sub hl [1, 2, 0] rfl)
