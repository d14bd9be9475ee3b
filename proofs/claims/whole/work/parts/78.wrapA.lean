set_option maxRecDepth 100000 in
set_option maxHeartbeats 4000000 in
theorem x_Law_door_0 (l : Launch) (hl9 : l.stackTraces = false) (D : va_G) (ad : Nat → Nat) (ki : Nat → ClassId) (n_wfree : Nat) (v_room_toldCount : Int32) (v_wall_steps : Int32) (v_wall_pipeCount : Int32) (v_wfree : Nat → Int32) (p1 : Int32) (p2 : Int32) (N : Nat) (sz : Nat) (vo : Nat → Int64) (r : Bool) (ov_room_toldCount : Int32) (ov_wfree : Nat → Int32) (hf : f_RoomFills_door N n_wfree v_room_toldCount v_wall_steps v_wall_pipeCount v_wfree p1 p2 = some (0, r, ov_room_toldCount, ov_wfree)) : Met l y_Law_door w_Law_door { frames := 9, cells := 4, slots := 24, locals := 240 } (q_PcMX [.ref (ad 0), .int p1, .int p2, .ref (ad 49)] D vwCl [(ad 0, .inr (0, [.ref (ad 2), .ref (ad 5), .ref (ad 13), .ref (ad 25), .ref (ad 27), .ref (ad 1), .int v_room_toldCount])), (ad 2, .inr (1, [.int v_wall_steps, .ref (ad 3), .ref (ad 4), .int v_wall_pipeCount])), (ad 3, .inl (ki 2, n_wfree, .inl v_wfree)), (ad 49, .inl (ki 1, 1, .inr (.inl vo)))] (TYS ki) sz) (q_Qm (some (.int 0)) D vwCl [(ad 0, .inr (0, [.ref (ad 2), .ref (ad 5), .ref (ad 13), .ref (ad 25), .ref (ad 27), .ref (ad 1), .int ov_room_toldCount])), (ad 2, .inr (1, [.int v_wall_steps, .ref (ad 3), .ref (ad 4), .int v_wall_pipeCount])), (ad 3, .inl (ki 2, n_wfree, .inl ov_wfree)), (ad 49, .inl (ki 1, 1, .inr (.inl (vp_updL vo (Int32.toNatClampNeg 0) (bJ r)))))] (va_A [(ad 0, .inr (0, [.ref (ad 2), .ref (ad 5), .ref (ad 13), .ref (ad 25), .ref (ad 27), .ref (ad 1), .int v_room_toldCount])), (ad 2, .inr (1, [.int v_wall_steps, .ref (ad 3), .ref (ad 4), .int v_wall_pipeCount])), (ad 3, .inl (ki 2, n_wfree, .inl v_wfree)), (ad 49, .inl (ki 1, 1, .inr (.inl vo)))] sz)) 4 24 (va_A [(ad 0, .inr (0, [.ref (ad 2), .ref (ad 5), .ref (ad 13), .ref (ad 25), .ref (ad 27), .ref (ad 1), .int v_room_toldCount])), (ad 2, .inr (1, [.int v_wall_steps, .ref (ad 3), .ref (ad 4), .int v_wall_pipeCount])), (ad 3, .inl (ki 2, n_wfree, .inl v_wfree)), (ad 49, .inl (ki 1, 1, .inr (.inl vo)))] sz) := by
  refine q_ofWW (cc := b_Law_door) (maxL := 5) (ret := some .int) (by decide) rfl ?_
  intro p e s m args below meth c s₁ B hml htab hv
  obtain ⟨rfl, hsz, hP, hK, hD0, hE, hZ⟩ := hv
  have hx := B.exec
  have hb := B.bytes
  have hr := B.returns
  have hts := atoms_spec (ws := w_Law_door) B.pre
  have hown : s.vm.findClass R_Law = some m.cls := findClass_of_methodNamed B.named
  subst hsz
  have hD := hD0.self (sz := s.heap.size)
  generalize hAe : va_A [(ad 0, .inr (0, [.ref (ad 2), .ref (ad 5), .ref (ad 13), .ref (ad 25), .ref (ad 27), .ref (ad 1), .int v_room_toldCount])), (ad 2, .inr (1, [.int v_wall_steps, .ref (ad 3), .ref (ad 4), .int v_wall_pipeCount])), (ad 3, .inl (ki 2, n_wfree, .inl v_wfree)), (ad 49, .inl (ki 1, 1, .inr (.inl vo)))] s.heap.size = A at hD hZ ⊢
  have hA : ∀ q : Nat, s.heap.size ≤ q → A q := fun q h => by rw [← hAe]; exact Or.inr h
  have hS : va_S A s.heap s.heap [] := va_S.rf
  replace hP : va_P D vwCl [(ad 0, .inr (0, [.ref (ad 2), .ref (ad 5), .ref (ad 13), .ref (ad 25), .ref (ad 27), .ref (ad 1), .int v_room_toldCount])), (ad 2, .inr (1, [.int v_wall_steps, .ref (ad 3), .ref (ad 4), .int v_wall_pipeCount])), (ad 3, .inl (ki 2, n_wfree, .inl v_wfree)), (ad 49, .inl (ki 1, 1, .inr (.inl vo)))] s.heap := hP
  have hl := lv_entry ([.ref (ad 0), .int p1, .int p2, .ref (ad 49)]) (n := 5) (Nat.le_of_ble_eq_true rfl)
  rw [lg_entry_eq]
  generalize (lg_sl ([.ref (ad 0), .int p1, .int p2, .ref (ad 49)]) ++ List.replicate (5 - (lg_sl ([.ref (ad 0), .int p1, .int p2, .ref (ad 49)])).length) Slot.unset).toArray = ls at hl ⊢
  replace hl : lv_has ls 5 [(0, .ref (ad 0)), (1, .int p1), (2, .int p2), (3, .ref (ad 49))] := hl
  refine lv_aload_n hx hb d_Law_door_0 rfl (lv_at hl 3 rfl) ?_
  refine lv_iconst (v := 0) hx hb d_Law_door_1 (by decide) ?_
  refine lv_aload_n hx hb d_Law_door_2 rfl (lv_at hl 0 rfl) ?_
  refine lv_iload_n hx hb d_Law_door_3 rfl (lv_at hl 1 rfl) ?_
  refine lv_iload_n hx hb d_Law_door_4 rfl (lv_at hl 2 rfl) ?_
  have hC : ([0, 1, 2] : List Nat).map (fun i => ([(ad 0, .inr (0, [.ref (ad 2), .ref (ad 5), .ref (ad 13), .ref (ad 25), .ref (ad 27), .ref (ad 1), .int v_room_toldCount])), (ad 2, .inr (1, [.int v_wall_steps, .ref (ad 3), .ref (ad 4), .int v_wall_pipeCount])), (ad 3, .inl (ki 2, n_wfree, .inl v_wfree)), (ad 49, .inl (ki 1, 1, .inr (.inl vo)))] : va_W)[i]?) = ([(ad 0, .inr (0, [.ref (ad 2), .ref (ad 5), .ref (ad 13), .ref (ad 25), .ref (ad 27), .ref (ad 1), .int v_room_toldCount])), (ad 2, .inr (1, [.int v_wall_steps, .ref (ad 3), .ref (ad 4), .int v_wall_pipeCount])), (ad 3, .inl (ki 2, n_wfree, .inl v_wfree))] : va_W).map some := rfl
  refine q_xcall3 (As := [.int p1, .int p2]) (rest := [.int 0, .ref (ad 49)]) (stk := [.int (bI r), .int 0, .ref (ad 49)]) (w1 := [(ad 0, .inr (0, [.ref (ad 2), .ref (ad 5), .ref (ad 13), .ref (ad 25), .ref (ad 27), .ref (ad 1), .int ov_room_toldCount])), (ad 2, .inr (1, [.int v_wall_steps, .ref (ad 3), .ref (ad 4), .int v_wall_pipeCount])), (ad 3, .inl (ki 2, n_wfree, .inl ov_wfree))]) (ws' := [(ad 0, .inr (0, [.ref (ad 2), .ref (ad 5), .ref (ad 13), .ref (ad 25), .ref (ad 27), .ref (ad 1), .int ov_room_toldCount])), (ad 2, .inr (1, [.int v_wall_steps, .ref (ad 3), .ref (ad 4), .int v_wall_pipeCount])), (ad 3, .inl (ki 2, n_wfree, .inl ov_wfree)), (ad 49, .inl (ki 1, 1, .inr (.inl vo)))]) (wc := [(ad 0, .inr (0, [.ref (ad 2), .ref (ad 5), .ref (ad 13), .ref (ad 25), .ref (ad 27), .ref (ad 1), .int v_room_toldCount])), (ad 2, .inr (1, [.int v_wall_steps, .ref (ad 3), .ref (ad 4), .int v_wall_pipeCount])), (ad 3, .inl (ki 2, n_wfree, .inl v_wfree))]) ⟨hx, hb, hml, hown, hts⟩ (c_RoomFills_door l hl9 D ad ki n_wfree v_room_toldCount v_wall_steps v_wall_pipeCount v_wfree p1 p2 N s.heap.size 0 r ov_room_toldCount ov_wfree hf) (cwV 2 hts (q_goodV ⟨m_566, m_567, m_568, m_54⟩ m_569) rfl rfl rfl (by decide +kernel) ⟨Nat.le_of_ble_eq_true rfl, Nat.le_of_ble_eq_true rfl⟩) (q_preVMX3 hE hZ hK hP hD hS hA (by decide +kernel) hC 0 0 rfl rfl) rfl hl.1 rfl (lv_room (Nat.le_of_ble_eq_true rfl)) d_Law_door_5 ⟨Nat.le_of_ble_eq_true rfl, Nat.le_of_ble_eq_true rfl⟩ hP hD hS hA hC [ad 0, ad 2, ad 3, ad 49] rfl rfl (fun H1 h1 hk => (q_c (h1 0 _ rfl) (q_c (h1 1 _ rfl) (q_c (h1 2 _ rfl) (q_c (hk 3 _ rfl (by decide)) q_n))))) rfl ?_ ?_
  · intro _
    intro H locs hP hD hS
    refine zv_eq (tgt := 15) hx hb d_Law_door_8 (by decide) (fun c9 => ?_) (fun c9 => ?_)
    · rw [show bJ r = 0 from if_neg c9]
      refine lv_lconst (v := 0) hx hb d_Law_door_15 (by decide) ?_
      refine va_last (x := 0) hx hb hK hP hD hS 3 1 rfl rfl q_in01 d_Law_door_16 (fun H locs hP hD hS => ?_)
      replace hP : va_P D vwCl [(ad 0, .inr (0, [.ref (ad 2), .ref (ad 5), .ref (ad 13), .ref (ad 25), .ref (ad 27), .ref (ad 1), .int ov_room_toldCount])), (ad 2, .inr (1, [.int v_wall_steps, .ref (ad 3), .ref (ad 4), .int v_wall_pipeCount])), (ad 3, .inl (ki 2, n_wfree, .inl ov_wfree)), (ad 49, .inl (ki 1, 1, .inr (.inl (vp_updL vo (Int32.toNatClampNeg 0) 0))))] H := hP
      refine lv_goto (tgt := 24) hx hb d_Law_door_17 (by decide) ?_
      refine lv_iconst (v := 0) hx hb d_Law_door_24 (by decide) ?_
      exact W.widen (Nat.le_of_ble_eq_true rfl) (Nat.le_of_ble_eq_true rfl) (W.iret (v := 0) hx hb hr (fun t ht hW => ⟨rfl, by rw [ht]; exact hP, hS.F ht⟩) hS.2.2 d_Law_door_25)
    · rw [show bJ r = 1 from if_pos c9]
      refine lv_lconst (v := 1) hx hb d_Law_door_11 (by decide) ?_
      refine lv_goto (tgt := 16) hx hb d_Law_door_12 (by decide) ?_
      refine va_last (x := 1) hx hb hK hP hD hS 3 1 rfl rfl q_in01 d_Law_door_16 (fun H locs hP hD hS => ?_)
      replace hP : va_P D vwCl [(ad 0, .inr (0, [.ref (ad 2), .ref (ad 5), .ref (ad 13), .ref (ad 25), .ref (ad 27), .ref (ad 1), .int ov_room_toldCount])), (ad 2, .inr (1, [.int v_wall_steps, .ref (ad 3), .ref (ad 4), .int v_wall_pipeCount])), (ad 3, .inl (ki 2, n_wfree, .inl ov_wfree)), (ad 49, .inl (ki 1, 1, .inr (.inl (vp_updL vo (Int32.toNatClampNeg 0) 1))))] H := hP
      refine lv_goto (tgt := 24) hx hb d_Law_door_17 (by decide) ?_
      refine lv_iconst (v := 0) hx hb d_Law_door_24 (by decide) ?_
      exact W.widen (Nat.le_of_ble_eq_true rfl) (Nat.le_of_ble_eq_true rfl) (W.iret (v := 0) hx hb hr (fun t ht hW => ⟨rfl, by rw [ht]; exact hP, hS.F ht⟩) hS.2.2 d_Law_door_25)
  · intro h0
    exact absurd rfl h0
set_option maxRecDepth 100000 in
set_option maxHeartbeats 4000000 in
theorem x_Law_door_2 (l : Launch) (hl9 : l.stackTraces = false) (D : va_G) (ad : Nat → Nat) (ki : Nat → ClassId) (n_wfree : Nat) (v_room_toldCount : Int32) (v_wall_steps : Int32) (v_wall_pipeCount : Int32) (v_wfree : Nat → Int32) (p1 : Int32) (p2 : Int32) (N : Nat) (sz : Nat) (vo : Nat → Int64) (r : Bool) (ov_room_toldCount : Int32) (ov_wfree : Nat → Int32) (hf : f_RoomFills_door N n_wfree v_room_toldCount v_wall_steps v_wall_pipeCount v_wfree p1 p2 = some (2, r, ov_room_toldCount, ov_wfree)) : Met l y_Law_door w_Law_door { frames := 9, cells := 4, slots := 24, locals := 240 } (q_PcMX [.ref (ad 0), .int p1, .int p2, .ref (ad 49)] D vwCl [(ad 0, .inr (0, [.ref (ad 2), .ref (ad 5), .ref (ad 13), .ref (ad 25), .ref (ad 27), .ref (ad 1), .int v_room_toldCount])), (ad 2, .inr (1, [.int v_wall_steps, .ref (ad 3), .ref (ad 4), .int v_wall_pipeCount])), (ad 3, .inl (ki 2, n_wfree, .inl v_wfree)), (ad 49, .inl (ki 1, 1, .inr (.inl vo)))] (TYS ki) sz) (q_Qm (some (.int 1)) D vwCl [(ad 0, .inr (0, [.ref (ad 2), .ref (ad 5), .ref (ad 13), .ref (ad 25), .ref (ad 27), .ref (ad 1), .int v_room_toldCount])), (ad 2, .inr (1, [.int v_wall_steps, .ref (ad 3), .ref (ad 4), .int v_wall_pipeCount])), (ad 3, .inl (ki 2, n_wfree, .inl v_wfree)), (ad 49, .inl (ki 1, 1, .inr (.inl vo)))] (va_A [(ad 0, .inr (0, [.ref (ad 2), .ref (ad 5), .ref (ad 13), .ref (ad 25), .ref (ad 27), .ref (ad 1), .int v_room_toldCount])), (ad 2, .inr (1, [.int v_wall_steps, .ref (ad 3), .ref (ad 4), .int v_wall_pipeCount])), (ad 3, .inl (ki 2, n_wfree, .inl v_wfree)), (ad 49, .inl (ki 1, 1, .inr (.inl vo)))] sz)) 4 24 (va_A [(ad 0, .inr (0, [.ref (ad 2), .ref (ad 5), .ref (ad 13), .ref (ad 25), .ref (ad 27), .ref (ad 1), .int v_room_toldCount])), (ad 2, .inr (1, [.int v_wall_steps, .ref (ad 3), .ref (ad 4), .int v_wall_pipeCount])), (ad 3, .inl (ki 2, n_wfree, .inl v_wfree)), (ad 49, .inl (ki 1, 1, .inr (.inl vo)))] sz) := by
  refine q_ofWW (cc := b_Law_door) (maxL := 5) (ret := some .int) (by decide) rfl ?_
  intro p e s m args below meth c s₁ B hml htab hv
  obtain ⟨rfl, hsz, hP, hK, hD0, hE, hZ⟩ := hv
  have hx := B.exec
  have hb := B.bytes
  have hr := B.returns
  have hts := atoms_spec (ws := w_Law_door) B.pre
  have hown : s.vm.findClass R_Law = some m.cls := findClass_of_methodNamed B.named
  subst hsz
  have hD := hD0.self (sz := s.heap.size)
  generalize hAe : va_A [(ad 0, .inr (0, [.ref (ad 2), .ref (ad 5), .ref (ad 13), .ref (ad 25), .ref (ad 27), .ref (ad 1), .int v_room_toldCount])), (ad 2, .inr (1, [.int v_wall_steps, .ref (ad 3), .ref (ad 4), .int v_wall_pipeCount])), (ad 3, .inl (ki 2, n_wfree, .inl v_wfree)), (ad 49, .inl (ki 1, 1, .inr (.inl vo)))] s.heap.size = A at hD hZ ⊢
  have hA : ∀ q : Nat, s.heap.size ≤ q → A q := fun q h => by rw [← hAe]; exact Or.inr h
  have hS : va_S A s.heap s.heap [] := va_S.rf
  replace hP : va_P D vwCl [(ad 0, .inr (0, [.ref (ad 2), .ref (ad 5), .ref (ad 13), .ref (ad 25), .ref (ad 27), .ref (ad 1), .int v_room_toldCount])), (ad 2, .inr (1, [.int v_wall_steps, .ref (ad 3), .ref (ad 4), .int v_wall_pipeCount])), (ad 3, .inl (ki 2, n_wfree, .inl v_wfree)), (ad 49, .inl (ki 1, 1, .inr (.inl vo)))] s.heap := hP
  have hl := lv_entry ([.ref (ad 0), .int p1, .int p2, .ref (ad 49)]) (n := 5) (Nat.le_of_ble_eq_true rfl)
  rw [lg_entry_eq]
  generalize (lg_sl ([.ref (ad 0), .int p1, .int p2, .ref (ad 49)]) ++ List.replicate (5 - (lg_sl ([.ref (ad 0), .int p1, .int p2, .ref (ad 49)])).length) Slot.unset).toArray = ls at hl ⊢
  replace hl : lv_has ls 5 [(0, .ref (ad 0)), (1, .int p1), (2, .int p2), (3, .ref (ad 49))] := hl
  refine lv_aload_n hx hb d_Law_door_0 rfl (lv_at hl 3 rfl) ?_
  refine lv_iconst (v := 0) hx hb d_Law_door_1 (by decide) ?_
  refine lv_aload_n hx hb d_Law_door_2 rfl (lv_at hl 0 rfl) ?_
  refine lv_iload_n hx hb d_Law_door_3 rfl (lv_at hl 1 rfl) ?_
  refine lv_iload_n hx hb d_Law_door_4 rfl (lv_at hl 2 rfl) ?_
  have hC : ([0, 1, 2] : List Nat).map (fun i => ([(ad 0, .inr (0, [.ref (ad 2), .ref (ad 5), .ref (ad 13), .ref (ad 25), .ref (ad 27), .ref (ad 1), .int v_room_toldCount])), (ad 2, .inr (1, [.int v_wall_steps, .ref (ad 3), .ref (ad 4), .int v_wall_pipeCount])), (ad 3, .inl (ki 2, n_wfree, .inl v_wfree)), (ad 49, .inl (ki 1, 1, .inr (.inl vo)))] : va_W)[i]?) = ([(ad 0, .inr (0, [.ref (ad 2), .ref (ad 5), .ref (ad 13), .ref (ad 25), .ref (ad 27), .ref (ad 1), .int v_room_toldCount])), (ad 2, .inr (1, [.int v_wall_steps, .ref (ad 3), .ref (ad 4), .int v_wall_pipeCount])), (ad 3, .inl (ki 2, n_wfree, .inl v_wfree))] : va_W).map some := rfl
  refine q_xcall3 (As := [.int p1, .int p2]) (rest := [.int 0, .ref (ad 49)]) (stk := [.int (bI r), .int 0, .ref (ad 49)]) (w1 := [(ad 0, .inr (0, [.ref (ad 2), .ref (ad 5), .ref (ad 13), .ref (ad 25), .ref (ad 27), .ref (ad 1), .int ov_room_toldCount])), (ad 2, .inr (1, [.int v_wall_steps, .ref (ad 3), .ref (ad 4), .int v_wall_pipeCount])), (ad 3, .inl (ki 2, n_wfree, .inl ov_wfree))]) (ws' := [(ad 0, .inr (0, [.ref (ad 2), .ref (ad 5), .ref (ad 13), .ref (ad 25), .ref (ad 27), .ref (ad 1), .int ov_room_toldCount])), (ad 2, .inr (1, [.int v_wall_steps, .ref (ad 3), .ref (ad 4), .int v_wall_pipeCount])), (ad 3, .inl (ki 2, n_wfree, .inl ov_wfree)), (ad 49, .inl (ki 1, 1, .inr (.inl vo)))]) (wc := [(ad 0, .inr (0, [.ref (ad 2), .ref (ad 5), .ref (ad 13), .ref (ad 25), .ref (ad 27), .ref (ad 1), .int v_room_toldCount])), (ad 2, .inr (1, [.int v_wall_steps, .ref (ad 3), .ref (ad 4), .int v_wall_pipeCount])), (ad 3, .inl (ki 2, n_wfree, .inl v_wfree))]) ⟨hx, hb, hml, hown, hts⟩ (c_RoomFills_door l hl9 D ad ki n_wfree v_room_toldCount v_wall_steps v_wall_pipeCount v_wfree p1 p2 N s.heap.size 2 r ov_room_toldCount ov_wfree hf) (cwV 2 hts (q_goodV ⟨m_566, m_567, m_568, m_54⟩ m_569) rfl rfl rfl (by decide +kernel) ⟨Nat.le_of_ble_eq_true rfl, Nat.le_of_ble_eq_true rfl⟩) (q_preVMX3 hE hZ hK hP hD hS hA (by decide +kernel) hC 0 0 rfl rfl) rfl hl.1 rfl (lv_room (Nat.le_of_ble_eq_true rfl)) d_Law_door_5 ⟨Nat.le_of_ble_eq_true rfl, Nat.le_of_ble_eq_true rfl⟩ hP hD hS hA hC [ad 0, ad 2, ad 3, ad 49] rfl rfl (fun H1 h1 hk => (q_c (h1 0 _ rfl) (q_c (h1 1 _ rfl) (q_c (h1 2 _ rfl) (q_c (hk 3 _ rfl (by decide)) q_n))))) rfl ?_ ?_
  · intro h0
    exact absurd h0 (by decide)
  · intro _ q H ce g1 g2 g3 hP hS
    obtain ⟨x0, hsp, hx0⟩ := q_tab1 htab
    have e1_0 : x0.startPc = 0 := congrArg (fun z => z.1) hx0
    have e2_0 : x0.endPc = 17 := congrArg (fun z => z.2.1) hx0
    have e3_0 : x0.handlerPc = 20 := congrArg (fun z => z.2.2.1) hx0
    have e4_0 : x0.catchType = 13 := congrArg (fun z => z.2.2.2) hx0
    have hpass : ∀ z ∈ ([] : List ExceptionTableEntry), z.catchType ≠ 0 ∧ ∃ nm : String, (Cond.classLink R_Law z.catchType nm).before ([.ref (ad 0), .int p1, .int p2, .ref (ad 49)] : List Value).toArray s = true ∧ va_Nc "java/lang/IllegalArgumentException" nm s := by
      intro z hz
      cases hz
    have hcw : Cond.castable "java/lang/IllegalArgumentException" "java/lang/IllegalArgumentException" ∈ q_NW := by decide
    refine q_catch (E := "java/lang/IllegalArgumentException") (name := "java/lang/IllegalArgumentException") hown [] x0 [] hsp hpass (by simp [covers, e1_0, e2_0]) (by rw [e4_0]; decide) (by rw [e4_0]; exact hts (.classLink R_Law 13 "java/lang/IllegalArgumentException") (List.mem_cons_of_mem _ m_565)) (va_Nw.use (q_NW_ok _ hcw) (hE.1 _ hcw)) g1 g2 g3 ?_
    rw [e3_0]
    refine lv_astore (lv' := ((4, .ref q) :: [(0, .ref (ad 0)), (1, .int p1), (2, .int p2), (3, .ref (ad 49))])) hx hb d_Law_door_20 hl (by decide) rfl (fun ls hl => ?_)
    refine lv_iconst (v := 1) hx hb d_Law_door_22 (by decide) ?_
    exact W.widen (Nat.le_of_ble_eq_true rfl) (Nat.le_of_ble_eq_true rfl) (W.iret (v := 1) hx hb hr (fun t ht hW => ⟨rfl, by rw [ht]; exact hP, hS.F ht⟩) hS.2.2 d_Law_door_23)
set_option maxRecDepth 100000 in
set_option maxHeartbeats 4000000 in
theorem x_Law_pipe_0 (l : Launch) (hl9 : l.stackTraces = false) (D : va_G) (ad : Nat → Nat) (ki : Nat → ClassId) (n_wpip : Nat) (v_room_toldCount : Int32) (v_wall_steps : Int32) (v_wall_pipeCount : Int32) (v_wpip : Nat → Int32) (p1 : Int32) (N : Nat) (sz : Nat) (vo : Nat → Int64) (r : Bool) (ov_room_toldCount : Int32) (ov_wall_pipeCount : Int32) (ov_wpip : Nat → Int32) (hf : f_RoomFills_pipe N n_wpip v_room_toldCount v_wall_steps v_wall_pipeCount v_wpip p1 = some (0, r, ov_room_toldCount, ov_wall_pipeCount, ov_wpip)) : Met l y_Law_pipe w_Law_pipe { frames := 9, cells := 4, slots := 24, locals := 240 } (q_PcMX [.ref (ad 0), .int p1, .ref (ad 49)] D vwCl [(ad 0, .inr (0, [.ref (ad 2), .ref (ad 5), .ref (ad 13), .ref (ad 25), .ref (ad 27), .ref (ad 1), .int v_room_toldCount])), (ad 2, .inr (1, [.int v_wall_steps, .ref (ad 3), .ref (ad 4), .int v_wall_pipeCount])), (ad 4, .inl (ki 0, n_wpip, .inl v_wpip)), (ad 49, .inl (ki 1, 1, .inr (.inl vo)))] (TYS ki) sz) (q_Qm (some (.int 0)) D vwCl [(ad 0, .inr (0, [.ref (ad 2), .ref (ad 5), .ref (ad 13), .ref (ad 25), .ref (ad 27), .ref (ad 1), .int ov_room_toldCount])), (ad 2, .inr (1, [.int v_wall_steps, .ref (ad 3), .ref (ad 4), .int ov_wall_pipeCount])), (ad 4, .inl (ki 0, n_wpip, .inl ov_wpip)), (ad 49, .inl (ki 1, 1, .inr (.inl (vp_updL vo (Int32.toNatClampNeg 0) (bJ r)))))] (va_A [(ad 0, .inr (0, [.ref (ad 2), .ref (ad 5), .ref (ad 13), .ref (ad 25), .ref (ad 27), .ref (ad 1), .int v_room_toldCount])), (ad 2, .inr (1, [.int v_wall_steps, .ref (ad 3), .ref (ad 4), .int v_wall_pipeCount])), (ad 4, .inl (ki 0, n_wpip, .inl v_wpip)), (ad 49, .inl (ki 1, 1, .inr (.inl vo)))] sz)) 4 24 (va_A [(ad 0, .inr (0, [.ref (ad 2), .ref (ad 5), .ref (ad 13), .ref (ad 25), .ref (ad 27), .ref (ad 1), .int v_room_toldCount])), (ad 2, .inr (1, [.int v_wall_steps, .ref (ad 3), .ref (ad 4), .int v_wall_pipeCount])), (ad 4, .inl (ki 0, n_wpip, .inl v_wpip)), (ad 49, .inl (ki 1, 1, .inr (.inl vo)))] sz) := by
  refine q_ofWW (cc := b_Law_pipe) (maxL := 4) (ret := some .int) (by decide) rfl ?_
  intro p e s m args below meth c s₁ B hml htab hv
  obtain ⟨rfl, hsz, hP, hK, hD0, hE, hZ⟩ := hv
  have hx := B.exec
  have hb := B.bytes
  have hr := B.returns
  have hts := atoms_spec (ws := w_Law_pipe) B.pre
  have hown : s.vm.findClass R_Law = some m.cls := findClass_of_methodNamed B.named
  subst hsz
  have hD := hD0.self (sz := s.heap.size)
  generalize hAe : va_A [(ad 0, .inr (0, [.ref (ad 2), .ref (ad 5), .ref (ad 13), .ref (ad 25), .ref (ad 27), .ref (ad 1), .int v_room_toldCount])), (ad 2, .inr (1, [.int v_wall_steps, .ref (ad 3), .ref (ad 4), .int v_wall_pipeCount])), (ad 4, .inl (ki 0, n_wpip, .inl v_wpip)), (ad 49, .inl (ki 1, 1, .inr (.inl vo)))] s.heap.size = A at hD hZ ⊢
  have hA : ∀ q : Nat, s.heap.size ≤ q → A q := fun q h => by rw [← hAe]; exact Or.inr h
  have hS : va_S A s.heap s.heap [] := va_S.rf
  replace hP : va_P D vwCl [(ad 0, .inr (0, [.ref (ad 2), .ref (ad 5), .ref (ad 13), .ref (ad 25), .ref (ad 27), .ref (ad 1), .int v_room_toldCount])), (ad 2, .inr (1, [.int v_wall_steps, .ref (ad 3), .ref (ad 4), .int v_wall_pipeCount])), (ad 4, .inl (ki 0, n_wpip, .inl v_wpip)), (ad 49, .inl (ki 1, 1, .inr (.inl vo)))] s.heap := hP
  have hl := lv_entry ([.ref (ad 0), .int p1, .ref (ad 49)]) (n := 4) (Nat.le_of_ble_eq_true rfl)
  rw [lg_entry_eq]
  generalize (lg_sl ([.ref (ad 0), .int p1, .ref (ad 49)]) ++ List.replicate (4 - (lg_sl ([.ref (ad 0), .int p1, .ref (ad 49)])).length) Slot.unset).toArray = ls at hl ⊢
  replace hl : lv_has ls 4 [(0, .ref (ad 0)), (1, .int p1), (2, .ref (ad 49))] := hl
  refine lv_aload_n hx hb d_Law_pipe_0 rfl (lv_at hl 2 rfl) ?_
  refine lv_iconst (v := 0) hx hb d_Law_pipe_1 (by decide) ?_
  refine lv_aload_n hx hb d_Law_pipe_2 rfl (lv_at hl 0 rfl) ?_
  refine lv_iload_n hx hb d_Law_pipe_3 rfl (lv_at hl 1 rfl) ?_
  have hC : ([0, 1, 2] : List Nat).map (fun i => ([(ad 0, .inr (0, [.ref (ad 2), .ref (ad 5), .ref (ad 13), .ref (ad 25), .ref (ad 27), .ref (ad 1), .int v_room_toldCount])), (ad 2, .inr (1, [.int v_wall_steps, .ref (ad 3), .ref (ad 4), .int v_wall_pipeCount])), (ad 4, .inl (ki 0, n_wpip, .inl v_wpip)), (ad 49, .inl (ki 1, 1, .inr (.inl vo)))] : va_W)[i]?) = ([(ad 0, .inr (0, [.ref (ad 2), .ref (ad 5), .ref (ad 13), .ref (ad 25), .ref (ad 27), .ref (ad 1), .int v_room_toldCount])), (ad 2, .inr (1, [.int v_wall_steps, .ref (ad 3), .ref (ad 4), .int v_wall_pipeCount])), (ad 4, .inl (ki 0, n_wpip, .inl v_wpip))] : va_W).map some := rfl
  refine q_xcall3 (As := [.int p1]) (rest := [.int 0, .ref (ad 49)]) (stk := [.int (bI r), .int 0, .ref (ad 49)]) (w1 := [(ad 0, .inr (0, [.ref (ad 2), .ref (ad 5), .ref (ad 13), .ref (ad 25), .ref (ad 27), .ref (ad 1), .int ov_room_toldCount])), (ad 2, .inr (1, [.int v_wall_steps, .ref (ad 3), .ref (ad 4), .int ov_wall_pipeCount])), (ad 4, .inl (ki 0, n_wpip, .inl ov_wpip))]) (ws' := [(ad 0, .inr (0, [.ref (ad 2), .ref (ad 5), .ref (ad 13), .ref (ad 25), .ref (ad 27), .ref (ad 1), .int ov_room_toldCount])), (ad 2, .inr (1, [.int v_wall_steps, .ref (ad 3), .ref (ad 4), .int ov_wall_pipeCount])), (ad 4, .inl (ki 0, n_wpip, .inl ov_wpip)), (ad 49, .inl (ki 1, 1, .inr (.inl vo)))]) (wc := [(ad 0, .inr (0, [.ref (ad 2), .ref (ad 5), .ref (ad 13), .ref (ad 25), .ref (ad 27), .ref (ad 1), .int v_room_toldCount])), (ad 2, .inr (1, [.int v_wall_steps, .ref (ad 3), .ref (ad 4), .int v_wall_pipeCount])), (ad 4, .inl (ki 0, n_wpip, .inl v_wpip))]) ⟨hx, hb, hml, hown, hts⟩ (c_RoomFills_pipe l hl9 D ad ki n_wpip v_room_toldCount v_wall_steps v_wall_pipeCount v_wpip p1 N s.heap.size 0 r ov_room_toldCount ov_wall_pipeCount ov_wpip hf) (cwV 1 hts (q_goodV ⟨m_650, m_651, m_652, m_54⟩ m_653) rfl rfl rfl (by decide +kernel) ⟨Nat.le_of_ble_eq_true rfl, Nat.le_of_ble_eq_true rfl⟩) (q_preVMX3 hE hZ hK hP hD hS hA (by decide +kernel) hC 0 0 rfl rfl) rfl hl.1 rfl (lv_room (Nat.le_of_ble_eq_true rfl)) d_Law_pipe_4 ⟨Nat.le_of_ble_eq_true rfl, Nat.le_of_ble_eq_true rfl⟩ hP hD hS hA hC [ad 0, ad 2, ad 4, ad 49] rfl rfl (fun H1 h1 hk => (q_c (h1 0 _ rfl) (q_c (h1 1 _ rfl) (q_c (h1 2 _ rfl) (q_c (hk 3 _ rfl (by decide)) q_n))))) rfl ?_ ?_
  · intro _
    intro H locs hP hD hS
    refine zv_eq (tgt := 14) hx hb d_Law_pipe_7 (by decide) (fun c9 => ?_) (fun c9 => ?_)
    · rw [show bJ r = 0 from if_neg c9]
      refine lv_lconst (v := 0) hx hb d_Law_pipe_14 (by decide) ?_
      refine va_last (x := 0) hx hb hK hP hD hS 3 1 rfl rfl q_in01 d_Law_pipe_15 (fun H locs hP hD hS => ?_)
      replace hP : va_P D vwCl [(ad 0, .inr (0, [.ref (ad 2), .ref (ad 5), .ref (ad 13), .ref (ad 25), .ref (ad 27), .ref (ad 1), .int ov_room_toldCount])), (ad 2, .inr (1, [.int v_wall_steps, .ref (ad 3), .ref (ad 4), .int ov_wall_pipeCount])), (ad 4, .inl (ki 0, n_wpip, .inl ov_wpip)), (ad 49, .inl (ki 1, 1, .inr (.inl (vp_updL vo (Int32.toNatClampNeg 0) 0))))] H := hP
      refine lv_goto (tgt := 22) hx hb d_Law_pipe_16 (by decide) ?_
      refine lv_iconst (v := 0) hx hb d_Law_pipe_22 (by decide) ?_
      exact W.widen (Nat.le_of_ble_eq_true rfl) (Nat.le_of_ble_eq_true rfl) (W.iret (v := 0) hx hb hr (fun t ht hW => ⟨rfl, by rw [ht]; exact hP, hS.F ht⟩) hS.2.2 d_Law_pipe_23)
    · rw [show bJ r = 1 from if_pos c9]
      refine lv_lconst (v := 1) hx hb d_Law_pipe_10 (by decide) ?_
      refine lv_goto (tgt := 15) hx hb d_Law_pipe_11 (by decide) ?_
      refine va_last (x := 1) hx hb hK hP hD hS 3 1 rfl rfl q_in01 d_Law_pipe_15 (fun H locs hP hD hS => ?_)
      replace hP : va_P D vwCl [(ad 0, .inr (0, [.ref (ad 2), .ref (ad 5), .ref (ad 13), .ref (ad 25), .ref (ad 27), .ref (ad 1), .int ov_room_toldCount])), (ad 2, .inr (1, [.int v_wall_steps, .ref (ad 3), .ref (ad 4), .int ov_wall_pipeCount])), (ad 4, .inl (ki 0, n_wpip, .inl ov_wpip)), (ad 49, .inl (ki 1, 1, .inr (.inl (vp_updL vo (Int32.toNatClampNeg 0) 1))))] H := hP
      refine lv_goto (tgt := 22) hx hb d_Law_pipe_16 (by decide) ?_
      refine lv_iconst (v := 0) hx hb d_Law_pipe_22 (by decide) ?_
      exact W.widen (Nat.le_of_ble_eq_true rfl) (Nat.le_of_ble_eq_true rfl) (W.iret (v := 0) hx hb hr (fun t ht hW => ⟨rfl, by rw [ht]; exact hP, hS.F ht⟩) hS.2.2 d_Law_pipe_23)
  · intro h0
    exact absurd rfl h0
set_option maxRecDepth 100000 in
set_option maxHeartbeats 4000000 in
theorem x_Law_pipe_2 (l : Launch) (hl9 : l.stackTraces = false) (D : va_G) (ad : Nat → Nat) (ki : Nat → ClassId) (n_wpip : Nat) (v_room_toldCount : Int32) (v_wall_steps : Int32) (v_wall_pipeCount : Int32) (v_wpip : Nat → Int32) (p1 : Int32) (N : Nat) (sz : Nat) (vo : Nat → Int64) (r : Bool) (ov_room_toldCount : Int32) (ov_wall_pipeCount : Int32) (ov_wpip : Nat → Int32) (hf : f_RoomFills_pipe N n_wpip v_room_toldCount v_wall_steps v_wall_pipeCount v_wpip p1 = some (2, r, ov_room_toldCount, ov_wall_pipeCount, ov_wpip)) : Met l y_Law_pipe w_Law_pipe { frames := 9, cells := 4, slots := 24, locals := 240 } (q_PcMX [.ref (ad 0), .int p1, .ref (ad 49)] D vwCl [(ad 0, .inr (0, [.ref (ad 2), .ref (ad 5), .ref (ad 13), .ref (ad 25), .ref (ad 27), .ref (ad 1), .int v_room_toldCount])), (ad 2, .inr (1, [.int v_wall_steps, .ref (ad 3), .ref (ad 4), .int v_wall_pipeCount])), (ad 4, .inl (ki 0, n_wpip, .inl v_wpip)), (ad 49, .inl (ki 1, 1, .inr (.inl vo)))] (TYS ki) sz) (q_Qm (some (.int 1)) D vwCl [(ad 0, .inr (0, [.ref (ad 2), .ref (ad 5), .ref (ad 13), .ref (ad 25), .ref (ad 27), .ref (ad 1), .int v_room_toldCount])), (ad 2, .inr (1, [.int v_wall_steps, .ref (ad 3), .ref (ad 4), .int v_wall_pipeCount])), (ad 4, .inl (ki 0, n_wpip, .inl v_wpip)), (ad 49, .inl (ki 1, 1, .inr (.inl vo)))] (va_A [(ad 0, .inr (0, [.ref (ad 2), .ref (ad 5), .ref (ad 13), .ref (ad 25), .ref (ad 27), .ref (ad 1), .int v_room_toldCount])), (ad 2, .inr (1, [.int v_wall_steps, .ref (ad 3), .ref (ad 4), .int v_wall_pipeCount])), (ad 4, .inl (ki 0, n_wpip, .inl v_wpip)), (ad 49, .inl (ki 1, 1, .inr (.inl vo)))] sz)) 4 24 (va_A [(ad 0, .inr (0, [.ref (ad 2), .ref (ad 5), .ref (ad 13), .ref (ad 25), .ref (ad 27), .ref (ad 1), .int v_room_toldCount])), (ad 2, .inr (1, [.int v_wall_steps, .ref (ad 3), .ref (ad 4), .int v_wall_pipeCount])), (ad 4, .inl (ki 0, n_wpip, .inl v_wpip)), (ad 49, .inl (ki 1, 1, .inr (.inl vo)))] sz) := by
  refine q_ofWW (cc := b_Law_pipe) (maxL := 4) (ret := some .int) (by decide) rfl ?_
  intro p e s m args below meth c s₁ B hml htab hv
  obtain ⟨rfl, hsz, hP, hK, hD0, hE, hZ⟩ := hv
  have hx := B.exec
  have hb := B.bytes
  have hr := B.returns
  have hts := atoms_spec (ws := w_Law_pipe) B.pre
  have hown : s.vm.findClass R_Law = some m.cls := findClass_of_methodNamed B.named
  subst hsz
  have hD := hD0.self (sz := s.heap.size)
  generalize hAe : va_A [(ad 0, .inr (0, [.ref (ad 2), .ref (ad 5), .ref (ad 13), .ref (ad 25), .ref (ad 27), .ref (ad 1), .int v_room_toldCount])), (ad 2, .inr (1, [.int v_wall_steps, .ref (ad 3), .ref (ad 4), .int v_wall_pipeCount])), (ad 4, .inl (ki 0, n_wpip, .inl v_wpip)), (ad 49, .inl (ki 1, 1, .inr (.inl vo)))] s.heap.size = A at hD hZ ⊢
  have hA : ∀ q : Nat, s.heap.size ≤ q → A q := fun q h => by rw [← hAe]; exact Or.inr h
  have hS : va_S A s.heap s.heap [] := va_S.rf
  replace hP : va_P D vwCl [(ad 0, .inr (0, [.ref (ad 2), .ref (ad 5), .ref (ad 13), .ref (ad 25), .ref (ad 27), .ref (ad 1), .int v_room_toldCount])), (ad 2, .inr (1, [.int v_wall_steps, .ref (ad 3), .ref (ad 4), .int v_wall_pipeCount])), (ad 4, .inl (ki 0, n_wpip, .inl v_wpip)), (ad 49, .inl (ki 1, 1, .inr (.inl vo)))] s.heap := hP
  have hl := lv_entry ([.ref (ad 0), .int p1, .ref (ad 49)]) (n := 4) (Nat.le_of_ble_eq_true rfl)
  rw [lg_entry_eq]
  generalize (lg_sl ([.ref (ad 0), .int p1, .ref (ad 49)]) ++ List.replicate (4 - (lg_sl ([.ref (ad 0), .int p1, .ref (ad 49)])).length) Slot.unset).toArray = ls at hl ⊢
  replace hl : lv_has ls 4 [(0, .ref (ad 0)), (1, .int p1), (2, .ref (ad 49))] := hl
  refine lv_aload_n hx hb d_Law_pipe_0 rfl (lv_at hl 2 rfl) ?_
  refine lv_iconst (v := 0) hx hb d_Law_pipe_1 (by decide) ?_
  refine lv_aload_n hx hb d_Law_pipe_2 rfl (lv_at hl 0 rfl) ?_
  refine lv_iload_n hx hb d_Law_pipe_3 rfl (lv_at hl 1 rfl) ?_
  have hC : ([0, 1, 2] : List Nat).map (fun i => ([(ad 0, .inr (0, [.ref (ad 2), .ref (ad 5), .ref (ad 13), .ref (ad 25), .ref (ad 27), .ref (ad 1), .int v_room_toldCount])), (ad 2, .inr (1, [.int v_wall_steps, .ref (ad 3), .ref (ad 4), .int v_wall_pipeCount])), (ad 4, .inl (ki 0, n_wpip, .inl v_wpip)), (ad 49, .inl (ki 1, 1, .inr (.inl vo)))] : va_W)[i]?) = ([(ad 0, .inr (0, [.ref (ad 2), .ref (ad 5), .ref (ad 13), .ref (ad 25), .ref (ad 27), .ref (ad 1), .int v_room_toldCount])), (ad 2, .inr (1, [.int v_wall_steps, .ref (ad 3), .ref (ad 4), .int v_wall_pipeCount])), (ad 4, .inl (ki 0, n_wpip, .inl v_wpip))] : va_W).map some := rfl
  refine q_xcall3 (As := [.int p1]) (rest := [.int 0, .ref (ad 49)]) (stk := [.int (bI r), .int 0, .ref (ad 49)]) (w1 := [(ad 0, .inr (0, [.ref (ad 2), .ref (ad 5), .ref (ad 13), .ref (ad 25), .ref (ad 27), .ref (ad 1), .int ov_room_toldCount])), (ad 2, .inr (1, [.int v_wall_steps, .ref (ad 3), .ref (ad 4), .int ov_wall_pipeCount])), (ad 4, .inl (ki 0, n_wpip, .inl ov_wpip))]) (ws' := [(ad 0, .inr (0, [.ref (ad 2), .ref (ad 5), .ref (ad 13), .ref (ad 25), .ref (ad 27), .ref (ad 1), .int ov_room_toldCount])), (ad 2, .inr (1, [.int v_wall_steps, .ref (ad 3), .ref (ad 4), .int ov_wall_pipeCount])), (ad 4, .inl (ki 0, n_wpip, .inl ov_wpip)), (ad 49, .inl (ki 1, 1, .inr (.inl vo)))]) (wc := [(ad 0, .inr (0, [.ref (ad 2), .ref (ad 5), .ref (ad 13), .ref (ad 25), .ref (ad 27), .ref (ad 1), .int v_room_toldCount])), (ad 2, .inr (1, [.int v_wall_steps, .ref (ad 3), .ref (ad 4), .int v_wall_pipeCount])), (ad 4, .inl (ki 0, n_wpip, .inl v_wpip))]) ⟨hx, hb, hml, hown, hts⟩ (c_RoomFills_pipe l hl9 D ad ki n_wpip v_room_toldCount v_wall_steps v_wall_pipeCount v_wpip p1 N s.heap.size 2 r ov_room_toldCount ov_wall_pipeCount ov_wpip hf) (cwV 1 hts (q_goodV ⟨m_650, m_651, m_652, m_54⟩ m_653) rfl rfl rfl (by decide +kernel) ⟨Nat.le_of_ble_eq_true rfl, Nat.le_of_ble_eq_true rfl⟩) (q_preVMX3 hE hZ hK hP hD hS hA (by decide +kernel) hC 0 0 rfl rfl) rfl hl.1 rfl (lv_room (Nat.le_of_ble_eq_true rfl)) d_Law_pipe_4 ⟨Nat.le_of_ble_eq_true rfl, Nat.le_of_ble_eq_true rfl⟩ hP hD hS hA hC [ad 0, ad 2, ad 4, ad 49] rfl rfl (fun H1 h1 hk => (q_c (h1 0 _ rfl) (q_c (h1 1 _ rfl) (q_c (h1 2 _ rfl) (q_c (hk 3 _ rfl (by decide)) q_n))))) rfl ?_ ?_
  · intro h0
    exact absurd h0 (by decide)
  · intro _ q H ce g1 g2 g3 hP hS
    obtain ⟨x0, hsp, hx0⟩ := q_tab1 htab
    have e1_0 : x0.startPc = 0 := congrArg (fun z => z.1) hx0
    have e2_0 : x0.endPc = 16 := congrArg (fun z => z.2.1) hx0
    have e3_0 : x0.handlerPc = 19 := congrArg (fun z => z.2.2.1) hx0
    have e4_0 : x0.catchType = 13 := congrArg (fun z => z.2.2.2) hx0
    have hpass : ∀ z ∈ ([] : List ExceptionTableEntry), z.catchType ≠ 0 ∧ ∃ nm : String, (Cond.classLink R_Law z.catchType nm).before ([.ref (ad 0), .int p1, .ref (ad 49)] : List Value).toArray s = true ∧ va_Nc "java/lang/IllegalArgumentException" nm s := by
      intro z hz
      cases hz
    have hcw : Cond.castable "java/lang/IllegalArgumentException" "java/lang/IllegalArgumentException" ∈ q_NW := by decide
    refine q_catch (E := "java/lang/IllegalArgumentException") (name := "java/lang/IllegalArgumentException") hown [] x0 [] hsp hpass (by simp [covers, e1_0, e2_0]) (by rw [e4_0]; decide) (by rw [e4_0]; exact hts (.classLink R_Law 13 "java/lang/IllegalArgumentException") (List.mem_cons_of_mem _ m_565)) (va_Nw.use (q_NW_ok _ hcw) (hE.1 _ hcw)) g1 g2 g3 ?_
    rw [e3_0]
    refine lv_astore_n (lv' := ((3, .ref q) :: [(0, .ref (ad 0)), (1, .int p1), (2, .ref (ad 49))])) hx hb d_Law_pipe_19 rfl hl (by decide) rfl (fun ls hl => ?_)
    refine lv_iconst (v := 1) hx hb d_Law_pipe_20 (by decide) ?_
    exact W.widen (Nat.le_of_ble_eq_true rfl) (Nat.le_of_ble_eq_true rfl) (W.iret (v := 1) hx hb hr (fun t ht hW => ⟨rfl, by rw [ht]; exact hP, hS.F ht⟩) hS.2.2 d_Law_pipe_21)
set_option maxRecDepth 100000 in
set_option maxHeartbeats 4000000 in
theorem x_Law_item_0 (l : Launch) (hl9 : l.stackTraces = false) (D : va_G) (ad : Nat → Nat) (ki : Nat → ClassId) (n_iwid : Nat) (n_inee : Nat) (n_iswi : Nat) (n_iswo : Nat) (n_isce : Nat) (v_room_toldCount : Int32) (v_items_mustSet : Int32) (v_items_count : Int32) (v_iwid : Nat → Int32) (v_inee : Nat → Int32) (v_iswi : Nat → Int32) (v_iswo : Nat → Int64) (v_isce : Nat → Int64) (p1 : Int32) (p2 : Int64) (p3 : Int64) (N : Nat) (sz : Nat) (vo : Nat → Int64) (r : Int32) (ov_room_toldCount : Int32) (ov_items_count : Int32) (ov_iwid : Nat → Int32) (ov_inee : Nat → Int32) (ov_iswi : Nat → Int32) (ov_iswo : Nat → Int64) (ov_isce : Nat → Int64) (hf : f_RoomFills_item N n_iwid n_inee n_iswi n_iswo n_isce v_room_toldCount v_items_mustSet v_items_count v_iwid v_inee v_iswi v_iswo v_isce p1 p2 p3 = some (0, r, ov_room_toldCount, ov_items_count, ov_iwid, ov_inee, ov_iswi, ov_iswo, ov_isce)) : Met l y_Law_item w_Law_item { frames := 9, cells := 4, slots := 24, locals := 240 } (q_PcMX [.ref (ad 0), .int p1, .long p2, .long p3, .ref (ad 49)] D vwCl [(ad 0, .inr (0, [.ref (ad 2), .ref (ad 5), .ref (ad 13), .ref (ad 25), .ref (ad 27), .ref (ad 1), .int v_room_toldCount])), (ad 5, .inr (2, [.ref (ad 6), .ref (ad 7), .ref (ad 8), .ref (ad 9), .ref (ad 10), .ref (ad 11), .ref (ad 12), .int v_items_mustSet, .int v_items_count])), (ad 6, .inl (ki 0, n_iwid, .inl v_iwid)), (ad 7, .inl (ki 0, n_inee, .inl v_inee)), (ad 10, .inl (ki 0, n_iswi, .inl v_iswi)), (ad 11, .inl (ki 1, n_iswo, .inr (.inl v_iswo))), (ad 12, .inl (ki 1, n_isce, .inr (.inl v_isce))), (ad 49, .inl (ki 1, 1, .inr (.inl vo)))] (TYS ki) sz) (q_Qm (some (.int 0)) D vwCl [(ad 0, .inr (0, [.ref (ad 2), .ref (ad 5), .ref (ad 13), .ref (ad 25), .ref (ad 27), .ref (ad 1), .int ov_room_toldCount])), (ad 5, .inr (2, [.ref (ad 6), .ref (ad 7), .ref (ad 8), .ref (ad 9), .ref (ad 10), .ref (ad 11), .ref (ad 12), .int v_items_mustSet, .int ov_items_count])), (ad 6, .inl (ki 0, n_iwid, .inl ov_iwid)), (ad 7, .inl (ki 0, n_inee, .inl ov_inee)), (ad 10, .inl (ki 0, n_iswi, .inl ov_iswi)), (ad 11, .inl (ki 1, n_iswo, .inr (.inl ov_iswo))), (ad 12, .inl (ki 1, n_isce, .inr (.inl ov_isce))), (ad 49, .inl (ki 1, 1, .inr (.inl (vp_updL vo (Int32.toNatClampNeg 0) (Int32.toInt64 r)))))] (va_A [(ad 0, .inr (0, [.ref (ad 2), .ref (ad 5), .ref (ad 13), .ref (ad 25), .ref (ad 27), .ref (ad 1), .int v_room_toldCount])), (ad 5, .inr (2, [.ref (ad 6), .ref (ad 7), .ref (ad 8), .ref (ad 9), .ref (ad 10), .ref (ad 11), .ref (ad 12), .int v_items_mustSet, .int v_items_count])), (ad 6, .inl (ki 0, n_iwid, .inl v_iwid)), (ad 7, .inl (ki 0, n_inee, .inl v_inee)), (ad 10, .inl (ki 0, n_iswi, .inl v_iswi)), (ad 11, .inl (ki 1, n_iswo, .inr (.inl v_iswo))), (ad 12, .inl (ki 1, n_isce, .inr (.inl v_isce))), (ad 49, .inl (ki 1, 1, .inr (.inl vo)))] sz)) 4 24 (va_A [(ad 0, .inr (0, [.ref (ad 2), .ref (ad 5), .ref (ad 13), .ref (ad 25), .ref (ad 27), .ref (ad 1), .int v_room_toldCount])), (ad 5, .inr (2, [.ref (ad 6), .ref (ad 7), .ref (ad 8), .ref (ad 9), .ref (ad 10), .ref (ad 11), .ref (ad 12), .int v_items_mustSet, .int v_items_count])), (ad 6, .inl (ki 0, n_iwid, .inl v_iwid)), (ad 7, .inl (ki 0, n_inee, .inl v_inee)), (ad 10, .inl (ki 0, n_iswi, .inl v_iswi)), (ad 11, .inl (ki 1, n_iswo, .inr (.inl v_iswo))), (ad 12, .inl (ki 1, n_isce, .inr (.inl v_isce))), (ad 49, .inl (ki 1, 1, .inr (.inl vo)))] sz) := by
  refine q_ofWW (cc := b_Law_item) (maxL := 8) (ret := some .int) (by decide) rfl ?_
  intro p e s m args below meth c s₁ B hml htab hv
  obtain ⟨rfl, hsz, hP, hK, hD0, hE, hZ⟩ := hv
  have hx := B.exec
  have hb := B.bytes
  have hr := B.returns
  have hts := atoms_spec (ws := w_Law_item) B.pre
  have hown : s.vm.findClass R_Law = some m.cls := findClass_of_methodNamed B.named
  subst hsz
  have hD := hD0.self (sz := s.heap.size)
  generalize hAe : va_A [(ad 0, .inr (0, [.ref (ad 2), .ref (ad 5), .ref (ad 13), .ref (ad 25), .ref (ad 27), .ref (ad 1), .int v_room_toldCount])), (ad 5, .inr (2, [.ref (ad 6), .ref (ad 7), .ref (ad 8), .ref (ad 9), .ref (ad 10), .ref (ad 11), .ref (ad 12), .int v_items_mustSet, .int v_items_count])), (ad 6, .inl (ki 0, n_iwid, .inl v_iwid)), (ad 7, .inl (ki 0, n_inee, .inl v_inee)), (ad 10, .inl (ki 0, n_iswi, .inl v_iswi)), (ad 11, .inl (ki 1, n_iswo, .inr (.inl v_iswo))), (ad 12, .inl (ki 1, n_isce, .inr (.inl v_isce))), (ad 49, .inl (ki 1, 1, .inr (.inl vo)))] s.heap.size = A at hD hZ ⊢
  have hA : ∀ q : Nat, s.heap.size ≤ q → A q := fun q h => by rw [← hAe]; exact Or.inr h
  have hS : va_S A s.heap s.heap [] := va_S.rf
  replace hP : va_P D vwCl [(ad 0, .inr (0, [.ref (ad 2), .ref (ad 5), .ref (ad 13), .ref (ad 25), .ref (ad 27), .ref (ad 1), .int v_room_toldCount])), (ad 5, .inr (2, [.ref (ad 6), .ref (ad 7), .ref (ad 8), .ref (ad 9), .ref (ad 10), .ref (ad 11), .ref (ad 12), .int v_items_mustSet, .int v_items_count])), (ad 6, .inl (ki 0, n_iwid, .inl v_iwid)), (ad 7, .inl (ki 0, n_inee, .inl v_inee)), (ad 10, .inl (ki 0, n_iswi, .inl v_iswi)), (ad 11, .inl (ki 1, n_iswo, .inr (.inl v_iswo))), (ad 12, .inl (ki 1, n_isce, .inr (.inl v_isce))), (ad 49, .inl (ki 1, 1, .inr (.inl vo)))] s.heap := hP
  have hl := lv_entry ([.ref (ad 0), .int p1, .long p2, .long p3, .ref (ad 49)]) (n := 8) (Nat.le_of_ble_eq_true rfl)
  rw [lg_entry_eq]
  generalize (lg_sl ([.ref (ad 0), .int p1, .long p2, .long p3, .ref (ad 49)]) ++ List.replicate (8 - (lg_sl ([.ref (ad 0), .int p1, .long p2, .long p3, .ref (ad 49)])).length) Slot.unset).toArray = ls at hl ⊢
  replace hl : lv_has ls 8 [(0, .ref (ad 0)), (1, .int p1), (2, .long p2), (4, .long p3), (6, .ref (ad 49))] := hl
  refine lv_aload hx hb d_Law_item_0 (lv_at hl 4 rfl) ?_
  refine lv_iconst (v := 0) hx hb d_Law_item_2 (by decide) ?_
  refine lv_aload_n hx hb d_Law_item_3 rfl (lv_at hl 0 rfl) ?_
  refine lv_iload_n hx hb d_Law_item_4 rfl (lv_at hl 1 rfl) ?_
  refine lv_lload_n hx hb d_Law_item_5 rfl (lv_at hl 2 rfl) ?_
  refine lv_lload hx hb d_Law_item_6 (lv_at hl 3 rfl) ?_
  have hC : ([0, 1, 2, 3, 4, 5, 6] : List Nat).map (fun i => ([(ad 0, .inr (0, [.ref (ad 2), .ref (ad 5), .ref (ad 13), .ref (ad 25), .ref (ad 27), .ref (ad 1), .int v_room_toldCount])), (ad 5, .inr (2, [.ref (ad 6), .ref (ad 7), .ref (ad 8), .ref (ad 9), .ref (ad 10), .ref (ad 11), .ref (ad 12), .int v_items_mustSet, .int v_items_count])), (ad 6, .inl (ki 0, n_iwid, .inl v_iwid)), (ad 7, .inl (ki 0, n_inee, .inl v_inee)), (ad 10, .inl (ki 0, n_iswi, .inl v_iswi)), (ad 11, .inl (ki 1, n_iswo, .inr (.inl v_iswo))), (ad 12, .inl (ki 1, n_isce, .inr (.inl v_isce))), (ad 49, .inl (ki 1, 1, .inr (.inl vo)))] : va_W)[i]?) = ([(ad 0, .inr (0, [.ref (ad 2), .ref (ad 5), .ref (ad 13), .ref (ad 25), .ref (ad 27), .ref (ad 1), .int v_room_toldCount])), (ad 5, .inr (2, [.ref (ad 6), .ref (ad 7), .ref (ad 8), .ref (ad 9), .ref (ad 10), .ref (ad 11), .ref (ad 12), .int v_items_mustSet, .int v_items_count])), (ad 6, .inl (ki 0, n_iwid, .inl v_iwid)), (ad 7, .inl (ki 0, n_inee, .inl v_inee)), (ad 10, .inl (ki 0, n_iswi, .inl v_iswi)), (ad 11, .inl (ki 1, n_iswo, .inr (.inl v_iswo))), (ad 12, .inl (ki 1, n_isce, .inr (.inl v_isce)))] : va_W).map some := rfl
  refine q_xcall3 (As := [.int p1, .long p2, .long p3]) (rest := [.int 0, .ref (ad 49)]) (stk := [.int r, .int 0, .ref (ad 49)]) (w1 := [(ad 0, .inr (0, [.ref (ad 2), .ref (ad 5), .ref (ad 13), .ref (ad 25), .ref (ad 27), .ref (ad 1), .int ov_room_toldCount])), (ad 5, .inr (2, [.ref (ad 6), .ref (ad 7), .ref (ad 8), .ref (ad 9), .ref (ad 10), .ref (ad 11), .ref (ad 12), .int v_items_mustSet, .int ov_items_count])), (ad 6, .inl (ki 0, n_iwid, .inl ov_iwid)), (ad 7, .inl (ki 0, n_inee, .inl ov_inee)), (ad 10, .inl (ki 0, n_iswi, .inl ov_iswi)), (ad 11, .inl (ki 1, n_iswo, .inr (.inl ov_iswo))), (ad 12, .inl (ki 1, n_isce, .inr (.inl ov_isce)))]) (ws' := [(ad 0, .inr (0, [.ref (ad 2), .ref (ad 5), .ref (ad 13), .ref (ad 25), .ref (ad 27), .ref (ad 1), .int ov_room_toldCount])), (ad 5, .inr (2, [.ref (ad 6), .ref (ad 7), .ref (ad 8), .ref (ad 9), .ref (ad 10), .ref (ad 11), .ref (ad 12), .int v_items_mustSet, .int ov_items_count])), (ad 6, .inl (ki 0, n_iwid, .inl ov_iwid)), (ad 7, .inl (ki 0, n_inee, .inl ov_inee)), (ad 10, .inl (ki 0, n_iswi, .inl ov_iswi)), (ad 11, .inl (ki 1, n_iswo, .inr (.inl ov_iswo))), (ad 12, .inl (ki 1, n_isce, .inr (.inl ov_isce))), (ad 49, .inl (ki 1, 1, .inr (.inl vo)))]) (wc := [(ad 0, .inr (0, [.ref (ad 2), .ref (ad 5), .ref (ad 13), .ref (ad 25), .ref (ad 27), .ref (ad 1), .int v_room_toldCount])), (ad 5, .inr (2, [.ref (ad 6), .ref (ad 7), .ref (ad 8), .ref (ad 9), .ref (ad 10), .ref (ad 11), .ref (ad 12), .int v_items_mustSet, .int v_items_count])), (ad 6, .inl (ki 0, n_iwid, .inl v_iwid)), (ad 7, .inl (ki 0, n_inee, .inl v_inee)), (ad 10, .inl (ki 0, n_iswi, .inl v_iswi)), (ad 11, .inl (ki 1, n_iswo, .inr (.inl v_iswo))), (ad 12, .inl (ki 1, n_isce, .inr (.inl v_isce)))]) ⟨hx, hb, hml, hown, hts⟩ (c_RoomFills_item l hl9 D ad ki n_iwid n_inee n_iswi n_iswo n_isce v_room_toldCount v_items_mustSet v_items_count v_iwid v_inee v_iswi v_iswo v_isce p1 p2 p3 N s.heap.size 0 r ov_room_toldCount ov_items_count ov_iwid ov_inee ov_iswi ov_iswo ov_isce hf) (cwV 3 hts (q_goodV ⟨m_664, m_665, m_666, m_54⟩ m_667) rfl rfl rfl (by decide +kernel) ⟨Nat.le_of_ble_eq_true rfl, Nat.le_of_ble_eq_true rfl⟩) (q_preVMX3 hE hZ hK hP hD hS hA (by decide +kernel) hC 0 0 rfl rfl) rfl hl.1 rfl (lv_room (Nat.le_of_ble_eq_true rfl)) d_Law_item_8 ⟨Nat.le_of_ble_eq_true rfl, Nat.le_of_ble_eq_true rfl⟩ hP hD hS hA hC [ad 0, ad 5, ad 6, ad 7, ad 10, ad 11, ad 12, ad 49] rfl rfl (fun H1 h1 hk => (q_c (h1 0 _ rfl) (q_c (h1 1 _ rfl) (q_c (h1 2 _ rfl) (q_c (h1 3 _ rfl) (q_c (h1 4 _ rfl) (q_c (h1 5 _ rfl) (q_c (h1 6 _ rfl) (q_c (hk 7 _ rfl (by decide)) q_n))))))))) rfl ?_ ?_
  · intro _
    intro H locs hP hD hS
    refine lv_i2l (v := Int32.toInt64 r) hx hb d_Law_item_11 rfl ?_
    refine va_last (x := (Int32.toInt64 r)) hx hb hK hP hD hS 7 1 rfl rfl q_in01 d_Law_item_12 (fun H locs hP hD hS => ?_)
    replace hP : va_P D vwCl [(ad 0, .inr (0, [.ref (ad 2), .ref (ad 5), .ref (ad 13), .ref (ad 25), .ref (ad 27), .ref (ad 1), .int ov_room_toldCount])), (ad 5, .inr (2, [.ref (ad 6), .ref (ad 7), .ref (ad 8), .ref (ad 9), .ref (ad 10), .ref (ad 11), .ref (ad 12), .int v_items_mustSet, .int ov_items_count])), (ad 6, .inl (ki 0, n_iwid, .inl ov_iwid)), (ad 7, .inl (ki 0, n_inee, .inl ov_inee)), (ad 10, .inl (ki 0, n_iswi, .inl ov_iswi)), (ad 11, .inl (ki 1, n_iswo, .inr (.inl ov_iswo))), (ad 12, .inl (ki 1, n_isce, .inr (.inl ov_isce))), (ad 49, .inl (ki 1, 1, .inr (.inl (vp_updL vo (Int32.toNatClampNeg 0) (Int32.toInt64 r)))))] H := hP
    refine lv_goto (tgt := 24) hx hb d_Law_item_13 (by decide) ?_
    refine lv_iconst (v := 0) hx hb d_Law_item_24 (by decide) ?_
    exact W.widen (Nat.le_of_ble_eq_true rfl) (Nat.le_of_ble_eq_true rfl) (W.iret (v := 0) hx hb hr (fun t ht hW => ⟨rfl, by rw [ht]; exact hP, hS.F ht⟩) hS.2.2 d_Law_item_25)
  · intro h0
    exact absurd rfl h0
set_option maxRecDepth 100000 in
set_option maxHeartbeats 4000000 in
theorem x_Law_item_1 (l : Launch) (hl9 : l.stackTraces = false) (D : va_G) (ad : Nat → Nat) (ki : Nat → ClassId) (n_iwid : Nat) (n_inee : Nat) (n_iswi : Nat) (n_iswo : Nat) (n_isce : Nat) (v_room_toldCount : Int32) (v_items_mustSet : Int32) (v_items_count : Int32) (v_iwid : Nat → Int32) (v_inee : Nat → Int32) (v_iswi : Nat → Int32) (v_iswo : Nat → Int64) (v_isce : Nat → Int64) (p1 : Int32) (p2 : Int64) (p3 : Int64) (N : Nat) (sz : Nat) (vo : Nat → Int64) (r : Int32) (ov_room_toldCount : Int32) (ov_items_count : Int32) (ov_iwid : Nat → Int32) (ov_inee : Nat → Int32) (ov_iswi : Nat → Int32) (ov_iswo : Nat → Int64) (ov_isce : Nat → Int64) (hf : f_RoomFills_item N n_iwid n_inee n_iswi n_iswo n_isce v_room_toldCount v_items_mustSet v_items_count v_iwid v_inee v_iswi v_iswo v_isce p1 p2 p3 = some (1, r, ov_room_toldCount, ov_items_count, ov_iwid, ov_inee, ov_iswi, ov_iswo, ov_isce)) : Met l y_Law_item w_Law_item { frames := 9, cells := 4, slots := 24, locals := 240 } (q_PcMX [.ref (ad 0), .int p1, .long p2, .long p3, .ref (ad 49)] D vwCl [(ad 0, .inr (0, [.ref (ad 2), .ref (ad 5), .ref (ad 13), .ref (ad 25), .ref (ad 27), .ref (ad 1), .int v_room_toldCount])), (ad 5, .inr (2, [.ref (ad 6), .ref (ad 7), .ref (ad 8), .ref (ad 9), .ref (ad 10), .ref (ad 11), .ref (ad 12), .int v_items_mustSet, .int v_items_count])), (ad 6, .inl (ki 0, n_iwid, .inl v_iwid)), (ad 7, .inl (ki 0, n_inee, .inl v_inee)), (ad 10, .inl (ki 0, n_iswi, .inl v_iswi)), (ad 11, .inl (ki 1, n_iswo, .inr (.inl v_iswo))), (ad 12, .inl (ki 1, n_isce, .inr (.inl v_isce))), (ad 49, .inl (ki 1, 1, .inr (.inl vo)))] (TYS ki) sz) (q_Qm (some (.int 1)) D vwCl [(ad 0, .inr (0, [.ref (ad 2), .ref (ad 5), .ref (ad 13), .ref (ad 25), .ref (ad 27), .ref (ad 1), .int v_room_toldCount])), (ad 5, .inr (2, [.ref (ad 6), .ref (ad 7), .ref (ad 8), .ref (ad 9), .ref (ad 10), .ref (ad 11), .ref (ad 12), .int v_items_mustSet, .int v_items_count])), (ad 6, .inl (ki 0, n_iwid, .inl v_iwid)), (ad 7, .inl (ki 0, n_inee, .inl v_inee)), (ad 10, .inl (ki 0, n_iswi, .inl v_iswi)), (ad 11, .inl (ki 1, n_iswo, .inr (.inl v_iswo))), (ad 12, .inl (ki 1, n_isce, .inr (.inl v_isce))), (ad 49, .inl (ki 1, 1, .inr (.inl vo)))] (va_A [(ad 0, .inr (0, [.ref (ad 2), .ref (ad 5), .ref (ad 13), .ref (ad 25), .ref (ad 27), .ref (ad 1), .int v_room_toldCount])), (ad 5, .inr (2, [.ref (ad 6), .ref (ad 7), .ref (ad 8), .ref (ad 9), .ref (ad 10), .ref (ad 11), .ref (ad 12), .int v_items_mustSet, .int v_items_count])), (ad 6, .inl (ki 0, n_iwid, .inl v_iwid)), (ad 7, .inl (ki 0, n_inee, .inl v_inee)), (ad 10, .inl (ki 0, n_iswi, .inl v_iswi)), (ad 11, .inl (ki 1, n_iswo, .inr (.inl v_iswo))), (ad 12, .inl (ki 1, n_isce, .inr (.inl v_isce))), (ad 49, .inl (ki 1, 1, .inr (.inl vo)))] sz)) 4 24 (va_A [(ad 0, .inr (0, [.ref (ad 2), .ref (ad 5), .ref (ad 13), .ref (ad 25), .ref (ad 27), .ref (ad 1), .int v_room_toldCount])), (ad 5, .inr (2, [.ref (ad 6), .ref (ad 7), .ref (ad 8), .ref (ad 9), .ref (ad 10), .ref (ad 11), .ref (ad 12), .int v_items_mustSet, .int v_items_count])), (ad 6, .inl (ki 0, n_iwid, .inl v_iwid)), (ad 7, .inl (ki 0, n_inee, .inl v_inee)), (ad 10, .inl (ki 0, n_iswi, .inl v_iswi)), (ad 11, .inl (ki 1, n_iswo, .inr (.inl v_iswo))), (ad 12, .inl (ki 1, n_isce, .inr (.inl v_isce))), (ad 49, .inl (ki 1, 1, .inr (.inl vo)))] sz) := by
  refine q_ofWW (cc := b_Law_item) (maxL := 8) (ret := some .int) (by decide) rfl ?_
  intro p e s m args below meth c s₁ B hml htab hv
  obtain ⟨rfl, hsz, hP, hK, hD0, hE, hZ⟩ := hv
  have hx := B.exec
  have hb := B.bytes
  have hr := B.returns
  have hts := atoms_spec (ws := w_Law_item) B.pre
  have hown : s.vm.findClass R_Law = some m.cls := findClass_of_methodNamed B.named
  subst hsz
  have hD := hD0.self (sz := s.heap.size)
  generalize hAe : va_A [(ad 0, .inr (0, [.ref (ad 2), .ref (ad 5), .ref (ad 13), .ref (ad 25), .ref (ad 27), .ref (ad 1), .int v_room_toldCount])), (ad 5, .inr (2, [.ref (ad 6), .ref (ad 7), .ref (ad 8), .ref (ad 9), .ref (ad 10), .ref (ad 11), .ref (ad 12), .int v_items_mustSet, .int v_items_count])), (ad 6, .inl (ki 0, n_iwid, .inl v_iwid)), (ad 7, .inl (ki 0, n_inee, .inl v_inee)), (ad 10, .inl (ki 0, n_iswi, .inl v_iswi)), (ad 11, .inl (ki 1, n_iswo, .inr (.inl v_iswo))), (ad 12, .inl (ki 1, n_isce, .inr (.inl v_isce))), (ad 49, .inl (ki 1, 1, .inr (.inl vo)))] s.heap.size = A at hD hZ ⊢
  have hA : ∀ q : Nat, s.heap.size ≤ q → A q := fun q h => by rw [← hAe]; exact Or.inr h
  have hS : va_S A s.heap s.heap [] := va_S.rf
  replace hP : va_P D vwCl [(ad 0, .inr (0, [.ref (ad 2), .ref (ad 5), .ref (ad 13), .ref (ad 25), .ref (ad 27), .ref (ad 1), .int v_room_toldCount])), (ad 5, .inr (2, [.ref (ad 6), .ref (ad 7), .ref (ad 8), .ref (ad 9), .ref (ad 10), .ref (ad 11), .ref (ad 12), .int v_items_mustSet, .int v_items_count])), (ad 6, .inl (ki 0, n_iwid, .inl v_iwid)), (ad 7, .inl (ki 0, n_inee, .inl v_inee)), (ad 10, .inl (ki 0, n_iswi, .inl v_iswi)), (ad 11, .inl (ki 1, n_iswo, .inr (.inl v_iswo))), (ad 12, .inl (ki 1, n_isce, .inr (.inl v_isce))), (ad 49, .inl (ki 1, 1, .inr (.inl vo)))] s.heap := hP
  have hl := lv_entry ([.ref (ad 0), .int p1, .long p2, .long p3, .ref (ad 49)]) (n := 8) (Nat.le_of_ble_eq_true rfl)
  rw [lg_entry_eq]
  generalize (lg_sl ([.ref (ad 0), .int p1, .long p2, .long p3, .ref (ad 49)]) ++ List.replicate (8 - (lg_sl ([.ref (ad 0), .int p1, .long p2, .long p3, .ref (ad 49)])).length) Slot.unset).toArray = ls at hl ⊢
  replace hl : lv_has ls 8 [(0, .ref (ad 0)), (1, .int p1), (2, .long p2), (4, .long p3), (6, .ref (ad 49))] := hl
  refine lv_aload hx hb d_Law_item_0 (lv_at hl 4 rfl) ?_
  refine lv_iconst (v := 0) hx hb d_Law_item_2 (by decide) ?_
  refine lv_aload_n hx hb d_Law_item_3 rfl (lv_at hl 0 rfl) ?_
  refine lv_iload_n hx hb d_Law_item_4 rfl (lv_at hl 1 rfl) ?_
  refine lv_lload_n hx hb d_Law_item_5 rfl (lv_at hl 2 rfl) ?_
  refine lv_lload hx hb d_Law_item_6 (lv_at hl 3 rfl) ?_
  have hC : ([0, 1, 2, 3, 4, 5, 6] : List Nat).map (fun i => ([(ad 0, .inr (0, [.ref (ad 2), .ref (ad 5), .ref (ad 13), .ref (ad 25), .ref (ad 27), .ref (ad 1), .int v_room_toldCount])), (ad 5, .inr (2, [.ref (ad 6), .ref (ad 7), .ref (ad 8), .ref (ad 9), .ref (ad 10), .ref (ad 11), .ref (ad 12), .int v_items_mustSet, .int v_items_count])), (ad 6, .inl (ki 0, n_iwid, .inl v_iwid)), (ad 7, .inl (ki 0, n_inee, .inl v_inee)), (ad 10, .inl (ki 0, n_iswi, .inl v_iswi)), (ad 11, .inl (ki 1, n_iswo, .inr (.inl v_iswo))), (ad 12, .inl (ki 1, n_isce, .inr (.inl v_isce))), (ad 49, .inl (ki 1, 1, .inr (.inl vo)))] : va_W)[i]?) = ([(ad 0, .inr (0, [.ref (ad 2), .ref (ad 5), .ref (ad 13), .ref (ad 25), .ref (ad 27), .ref (ad 1), .int v_room_toldCount])), (ad 5, .inr (2, [.ref (ad 6), .ref (ad 7), .ref (ad 8), .ref (ad 9), .ref (ad 10), .ref (ad 11), .ref (ad 12), .int v_items_mustSet, .int v_items_count])), (ad 6, .inl (ki 0, n_iwid, .inl v_iwid)), (ad 7, .inl (ki 0, n_inee, .inl v_inee)), (ad 10, .inl (ki 0, n_iswi, .inl v_iswi)), (ad 11, .inl (ki 1, n_iswo, .inr (.inl v_iswo))), (ad 12, .inl (ki 1, n_isce, .inr (.inl v_isce)))] : va_W).map some := rfl
  refine q_xcall3 (As := [.int p1, .long p2, .long p3]) (rest := [.int 0, .ref (ad 49)]) (stk := [.int r, .int 0, .ref (ad 49)]) (w1 := [(ad 0, .inr (0, [.ref (ad 2), .ref (ad 5), .ref (ad 13), .ref (ad 25), .ref (ad 27), .ref (ad 1), .int ov_room_toldCount])), (ad 5, .inr (2, [.ref (ad 6), .ref (ad 7), .ref (ad 8), .ref (ad 9), .ref (ad 10), .ref (ad 11), .ref (ad 12), .int v_items_mustSet, .int ov_items_count])), (ad 6, .inl (ki 0, n_iwid, .inl ov_iwid)), (ad 7, .inl (ki 0, n_inee, .inl ov_inee)), (ad 10, .inl (ki 0, n_iswi, .inl ov_iswi)), (ad 11, .inl (ki 1, n_iswo, .inr (.inl ov_iswo))), (ad 12, .inl (ki 1, n_isce, .inr (.inl ov_isce)))]) (ws' := [(ad 0, .inr (0, [.ref (ad 2), .ref (ad 5), .ref (ad 13), .ref (ad 25), .ref (ad 27), .ref (ad 1), .int ov_room_toldCount])), (ad 5, .inr (2, [.ref (ad 6), .ref (ad 7), .ref (ad 8), .ref (ad 9), .ref (ad 10), .ref (ad 11), .ref (ad 12), .int v_items_mustSet, .int ov_items_count])), (ad 6, .inl (ki 0, n_iwid, .inl ov_iwid)), (ad 7, .inl (ki 0, n_inee, .inl ov_inee)), (ad 10, .inl (ki 0, n_iswi, .inl ov_iswi)), (ad 11, .inl (ki 1, n_iswo, .inr (.inl ov_iswo))), (ad 12, .inl (ki 1, n_isce, .inr (.inl ov_isce))), (ad 49, .inl (ki 1, 1, .inr (.inl vo)))]) (wc := [(ad 0, .inr (0, [.ref (ad 2), .ref (ad 5), .ref (ad 13), .ref (ad 25), .ref (ad 27), .ref (ad 1), .int v_room_toldCount])), (ad 5, .inr (2, [.ref (ad 6), .ref (ad 7), .ref (ad 8), .ref (ad 9), .ref (ad 10), .ref (ad 11), .ref (ad 12), .int v_items_mustSet, .int v_items_count])), (ad 6, .inl (ki 0, n_iwid, .inl v_iwid)), (ad 7, .inl (ki 0, n_inee, .inl v_inee)), (ad 10, .inl (ki 0, n_iswi, .inl v_iswi)), (ad 11, .inl (ki 1, n_iswo, .inr (.inl v_iswo))), (ad 12, .inl (ki 1, n_isce, .inr (.inl v_isce)))]) ⟨hx, hb, hml, hown, hts⟩ (c_RoomFills_item l hl9 D ad ki n_iwid n_inee n_iswi n_iswo n_isce v_room_toldCount v_items_mustSet v_items_count v_iwid v_inee v_iswi v_iswo v_isce p1 p2 p3 N s.heap.size 1 r ov_room_toldCount ov_items_count ov_iwid ov_inee ov_iswi ov_iswo ov_isce hf) (cwV 3 hts (q_goodV ⟨m_664, m_665, m_666, m_54⟩ m_667) rfl rfl rfl (by decide +kernel) ⟨Nat.le_of_ble_eq_true rfl, Nat.le_of_ble_eq_true rfl⟩) (q_preVMX3 hE hZ hK hP hD hS hA (by decide +kernel) hC 0 0 rfl rfl) rfl hl.1 rfl (lv_room (Nat.le_of_ble_eq_true rfl)) d_Law_item_8 ⟨Nat.le_of_ble_eq_true rfl, Nat.le_of_ble_eq_true rfl⟩ hP hD hS hA hC [ad 0, ad 5, ad 6, ad 7, ad 10, ad 11, ad 12, ad 49] rfl rfl (fun H1 h1 hk => (q_c (h1 0 _ rfl) (q_c (h1 1 _ rfl) (q_c (h1 2 _ rfl) (q_c (h1 3 _ rfl) (q_c (h1 4 _ rfl) (q_c (h1 5 _ rfl) (q_c (h1 6 _ rfl) (q_c (hk 7 _ rfl (by decide)) q_n))))))))) rfl ?_ ?_
  · intro h0
    exact absurd h0 (by decide)
  · intro _ q H ce g1 g2 g3 hP hS
    obtain ⟨x0, x1, hsp, hx0, hx1⟩ := q_tab2 htab
    have e1_0 : x0.startPc = 0 := congrArg (fun z => z.1) hx0
    have e2_0 : x0.endPc = 13 := congrArg (fun z => z.2.1) hx0
    have e3_0 : x0.handlerPc = 16 := congrArg (fun z => z.2.2.1) hx0
    have e4_0 : x0.catchType = 23 := congrArg (fun z => z.2.2.2) hx0
    have hpass : ∀ z ∈ ([] : List ExceptionTableEntry), z.catchType ≠ 0 ∧ ∃ nm : String, (Cond.classLink R_Law z.catchType nm).before ([.ref (ad 0), .int p1, .long p2, .long p3, .ref (ad 49)] : List Value).toArray s = true ∧ va_Nc "java/lang/IllegalStateException" nm s := by
      intro z hz
      cases hz
    have hcw : Cond.castable "java/lang/IllegalStateException" "java/lang/IllegalStateException" ∈ q_NW := by decide
    refine q_catch (E := "java/lang/IllegalStateException") (name := "java/lang/IllegalStateException") hown [] x0 [x1] hsp hpass (by simp [covers, e1_0, e2_0]) (by rw [e4_0]; decide) (by rw [e4_0]; exact hts (.classLink R_Law 23 "java/lang/IllegalStateException") (List.mem_cons_of_mem _ m_663)) (va_Nw.use (q_NW_ok _ hcw) (hE.1 _ hcw)) g1 g2 g3 ?_
    rw [e3_0]
    refine lv_astore (lv' := ((7, .ref q) :: [(0, .ref (ad 0)), (1, .int p1), (2, .long p2), (4, .long p3), (6, .ref (ad 49))])) hx hb d_Law_item_16 hl (by decide) rfl (fun ls hl => ?_)
    refine lv_iconst (v := 1) hx hb d_Law_item_18 (by decide) ?_
    exact W.widen (Nat.le_of_ble_eq_true rfl) (Nat.le_of_ble_eq_true rfl) (W.iret (v := 1) hx hb hr (fun t ht hW => ⟨rfl, by rw [ht]; exact hP, hS.F ht⟩) hS.2.2 d_Law_item_19)
set_option maxRecDepth 100000 in
set_option maxHeartbeats 4000000 in
theorem x_Law_item_2 (l : Launch) (hl9 : l.stackTraces = false) (D : va_G) (ad : Nat → Nat) (ki : Nat → ClassId) (n_iwid : Nat) (n_inee : Nat) (n_iswi : Nat) (n_iswo : Nat) (n_isce : Nat) (v_room_toldCount : Int32) (v_items_mustSet : Int32) (v_items_count : Int32) (v_iwid : Nat → Int32) (v_inee : Nat → Int32) (v_iswi : Nat → Int32) (v_iswo : Nat → Int64) (v_isce : Nat → Int64) (p1 : Int32) (p2 : Int64) (p3 : Int64) (N : Nat) (sz : Nat) (vo : Nat → Int64) (r : Int32) (ov_room_toldCount : Int32) (ov_items_count : Int32) (ov_iwid : Nat → Int32) (ov_inee : Nat → Int32) (ov_iswi : Nat → Int32) (ov_iswo : Nat → Int64) (ov_isce : Nat → Int64) (hf : f_RoomFills_item N n_iwid n_inee n_iswi n_iswo n_isce v_room_toldCount v_items_mustSet v_items_count v_iwid v_inee v_iswi v_iswo v_isce p1 p2 p3 = some (2, r, ov_room_toldCount, ov_items_count, ov_iwid, ov_inee, ov_iswi, ov_iswo, ov_isce)) : Met l y_Law_item w_Law_item { frames := 9, cells := 4, slots := 24, locals := 240 } (q_PcMX [.ref (ad 0), .int p1, .long p2, .long p3, .ref (ad 49)] D vwCl [(ad 0, .inr (0, [.ref (ad 2), .ref (ad 5), .ref (ad 13), .ref (ad 25), .ref (ad 27), .ref (ad 1), .int v_room_toldCount])), (ad 5, .inr (2, [.ref (ad 6), .ref (ad 7), .ref (ad 8), .ref (ad 9), .ref (ad 10), .ref (ad 11), .ref (ad 12), .int v_items_mustSet, .int v_items_count])), (ad 6, .inl (ki 0, n_iwid, .inl v_iwid)), (ad 7, .inl (ki 0, n_inee, .inl v_inee)), (ad 10, .inl (ki 0, n_iswi, .inl v_iswi)), (ad 11, .inl (ki 1, n_iswo, .inr (.inl v_iswo))), (ad 12, .inl (ki 1, n_isce, .inr (.inl v_isce))), (ad 49, .inl (ki 1, 1, .inr (.inl vo)))] (TYS ki) sz) (q_Qm (some (.int 2)) D vwCl [(ad 0, .inr (0, [.ref (ad 2), .ref (ad 5), .ref (ad 13), .ref (ad 25), .ref (ad 27), .ref (ad 1), .int v_room_toldCount])), (ad 5, .inr (2, [.ref (ad 6), .ref (ad 7), .ref (ad 8), .ref (ad 9), .ref (ad 10), .ref (ad 11), .ref (ad 12), .int v_items_mustSet, .int v_items_count])), (ad 6, .inl (ki 0, n_iwid, .inl v_iwid)), (ad 7, .inl (ki 0, n_inee, .inl v_inee)), (ad 10, .inl (ki 0, n_iswi, .inl v_iswi)), (ad 11, .inl (ki 1, n_iswo, .inr (.inl v_iswo))), (ad 12, .inl (ki 1, n_isce, .inr (.inl v_isce))), (ad 49, .inl (ki 1, 1, .inr (.inl vo)))] (va_A [(ad 0, .inr (0, [.ref (ad 2), .ref (ad 5), .ref (ad 13), .ref (ad 25), .ref (ad 27), .ref (ad 1), .int v_room_toldCount])), (ad 5, .inr (2, [.ref (ad 6), .ref (ad 7), .ref (ad 8), .ref (ad 9), .ref (ad 10), .ref (ad 11), .ref (ad 12), .int v_items_mustSet, .int v_items_count])), (ad 6, .inl (ki 0, n_iwid, .inl v_iwid)), (ad 7, .inl (ki 0, n_inee, .inl v_inee)), (ad 10, .inl (ki 0, n_iswi, .inl v_iswi)), (ad 11, .inl (ki 1, n_iswo, .inr (.inl v_iswo))), (ad 12, .inl (ki 1, n_isce, .inr (.inl v_isce))), (ad 49, .inl (ki 1, 1, .inr (.inl vo)))] sz)) 4 24 (va_A [(ad 0, .inr (0, [.ref (ad 2), .ref (ad 5), .ref (ad 13), .ref (ad 25), .ref (ad 27), .ref (ad 1), .int v_room_toldCount])), (ad 5, .inr (2, [.ref (ad 6), .ref (ad 7), .ref (ad 8), .ref (ad 9), .ref (ad 10), .ref (ad 11), .ref (ad 12), .int v_items_mustSet, .int v_items_count])), (ad 6, .inl (ki 0, n_iwid, .inl v_iwid)), (ad 7, .inl (ki 0, n_inee, .inl v_inee)), (ad 10, .inl (ki 0, n_iswi, .inl v_iswi)), (ad 11, .inl (ki 1, n_iswo, .inr (.inl v_iswo))), (ad 12, .inl (ki 1, n_isce, .inr (.inl v_isce))), (ad 49, .inl (ki 1, 1, .inr (.inl vo)))] sz) := by
  refine q_ofWW (cc := b_Law_item) (maxL := 8) (ret := some .int) (by decide) rfl ?_
  intro p e s m args below meth c s₁ B hml htab hv
  obtain ⟨rfl, hsz, hP, hK, hD0, hE, hZ⟩ := hv
  have hx := B.exec
  have hb := B.bytes
  have hr := B.returns
  have hts := atoms_spec (ws := w_Law_item) B.pre
  have hown : s.vm.findClass R_Law = some m.cls := findClass_of_methodNamed B.named
  subst hsz
  have hD := hD0.self (sz := s.heap.size)
  generalize hAe : va_A [(ad 0, .inr (0, [.ref (ad 2), .ref (ad 5), .ref (ad 13), .ref (ad 25), .ref (ad 27), .ref (ad 1), .int v_room_toldCount])), (ad 5, .inr (2, [.ref (ad 6), .ref (ad 7), .ref (ad 8), .ref (ad 9), .ref (ad 10), .ref (ad 11), .ref (ad 12), .int v_items_mustSet, .int v_items_count])), (ad 6, .inl (ki 0, n_iwid, .inl v_iwid)), (ad 7, .inl (ki 0, n_inee, .inl v_inee)), (ad 10, .inl (ki 0, n_iswi, .inl v_iswi)), (ad 11, .inl (ki 1, n_iswo, .inr (.inl v_iswo))), (ad 12, .inl (ki 1, n_isce, .inr (.inl v_isce))), (ad 49, .inl (ki 1, 1, .inr (.inl vo)))] s.heap.size = A at hD hZ ⊢
  have hA : ∀ q : Nat, s.heap.size ≤ q → A q := fun q h => by rw [← hAe]; exact Or.inr h
  have hS : va_S A s.heap s.heap [] := va_S.rf
  replace hP : va_P D vwCl [(ad 0, .inr (0, [.ref (ad 2), .ref (ad 5), .ref (ad 13), .ref (ad 25), .ref (ad 27), .ref (ad 1), .int v_room_toldCount])), (ad 5, .inr (2, [.ref (ad 6), .ref (ad 7), .ref (ad 8), .ref (ad 9), .ref (ad 10), .ref (ad 11), .ref (ad 12), .int v_items_mustSet, .int v_items_count])), (ad 6, .inl (ki 0, n_iwid, .inl v_iwid)), (ad 7, .inl (ki 0, n_inee, .inl v_inee)), (ad 10, .inl (ki 0, n_iswi, .inl v_iswi)), (ad 11, .inl (ki 1, n_iswo, .inr (.inl v_iswo))), (ad 12, .inl (ki 1, n_isce, .inr (.inl v_isce))), (ad 49, .inl (ki 1, 1, .inr (.inl vo)))] s.heap := hP
  have hl := lv_entry ([.ref (ad 0), .int p1, .long p2, .long p3, .ref (ad 49)]) (n := 8) (Nat.le_of_ble_eq_true rfl)
  rw [lg_entry_eq]
  generalize (lg_sl ([.ref (ad 0), .int p1, .long p2, .long p3, .ref (ad 49)]) ++ List.replicate (8 - (lg_sl ([.ref (ad 0), .int p1, .long p2, .long p3, .ref (ad 49)])).length) Slot.unset).toArray = ls at hl ⊢
  replace hl : lv_has ls 8 [(0, .ref (ad 0)), (1, .int p1), (2, .long p2), (4, .long p3), (6, .ref (ad 49))] := hl
  refine lv_aload hx hb d_Law_item_0 (lv_at hl 4 rfl) ?_
  refine lv_iconst (v := 0) hx hb d_Law_item_2 (by decide) ?_
  refine lv_aload_n hx hb d_Law_item_3 rfl (lv_at hl 0 rfl) ?_
  refine lv_iload_n hx hb d_Law_item_4 rfl (lv_at hl 1 rfl) ?_
  refine lv_lload_n hx hb d_Law_item_5 rfl (lv_at hl 2 rfl) ?_
  refine lv_lload hx hb d_Law_item_6 (lv_at hl 3 rfl) ?_
  have hC : ([0, 1, 2, 3, 4, 5, 6] : List Nat).map (fun i => ([(ad 0, .inr (0, [.ref (ad 2), .ref (ad 5), .ref (ad 13), .ref (ad 25), .ref (ad 27), .ref (ad 1), .int v_room_toldCount])), (ad 5, .inr (2, [.ref (ad 6), .ref (ad 7), .ref (ad 8), .ref (ad 9), .ref (ad 10), .ref (ad 11), .ref (ad 12), .int v_items_mustSet, .int v_items_count])), (ad 6, .inl (ki 0, n_iwid, .inl v_iwid)), (ad 7, .inl (ki 0, n_inee, .inl v_inee)), (ad 10, .inl (ki 0, n_iswi, .inl v_iswi)), (ad 11, .inl (ki 1, n_iswo, .inr (.inl v_iswo))), (ad 12, .inl (ki 1, n_isce, .inr (.inl v_isce))), (ad 49, .inl (ki 1, 1, .inr (.inl vo)))] : va_W)[i]?) = ([(ad 0, .inr (0, [.ref (ad 2), .ref (ad 5), .ref (ad 13), .ref (ad 25), .ref (ad 27), .ref (ad 1), .int v_room_toldCount])), (ad 5, .inr (2, [.ref (ad 6), .ref (ad 7), .ref (ad 8), .ref (ad 9), .ref (ad 10), .ref (ad 11), .ref (ad 12), .int v_items_mustSet, .int v_items_count])), (ad 6, .inl (ki 0, n_iwid, .inl v_iwid)), (ad 7, .inl (ki 0, n_inee, .inl v_inee)), (ad 10, .inl (ki 0, n_iswi, .inl v_iswi)), (ad 11, .inl (ki 1, n_iswo, .inr (.inl v_iswo))), (ad 12, .inl (ki 1, n_isce, .inr (.inl v_isce)))] : va_W).map some := rfl
  refine q_xcall3 (As := [.int p1, .long p2, .long p3]) (rest := [.int 0, .ref (ad 49)]) (stk := [.int r, .int 0, .ref (ad 49)]) (w1 := [(ad 0, .inr (0, [.ref (ad 2), .ref (ad 5), .ref (ad 13), .ref (ad 25), .ref (ad 27), .ref (ad 1), .int ov_room_toldCount])), (ad 5, .inr (2, [.ref (ad 6), .ref (ad 7), .ref (ad 8), .ref (ad 9), .ref (ad 10), .ref (ad 11), .ref (ad 12), .int v_items_mustSet, .int ov_items_count])), (ad 6, .inl (ki 0, n_iwid, .inl ov_iwid)), (ad 7, .inl (ki 0, n_inee, .inl ov_inee)), (ad 10, .inl (ki 0, n_iswi, .inl ov_iswi)), (ad 11, .inl (ki 1, n_iswo, .inr (.inl ov_iswo))), (ad 12, .inl (ki 1, n_isce, .inr (.inl ov_isce)))]) (ws' := [(ad 0, .inr (0, [.ref (ad 2), .ref (ad 5), .ref (ad 13), .ref (ad 25), .ref (ad 27), .ref (ad 1), .int ov_room_toldCount])), (ad 5, .inr (2, [.ref (ad 6), .ref (ad 7), .ref (ad 8), .ref (ad 9), .ref (ad 10), .ref (ad 11), .ref (ad 12), .int v_items_mustSet, .int ov_items_count])), (ad 6, .inl (ki 0, n_iwid, .inl ov_iwid)), (ad 7, .inl (ki 0, n_inee, .inl ov_inee)), (ad 10, .inl (ki 0, n_iswi, .inl ov_iswi)), (ad 11, .inl (ki 1, n_iswo, .inr (.inl ov_iswo))), (ad 12, .inl (ki 1, n_isce, .inr (.inl ov_isce))), (ad 49, .inl (ki 1, 1, .inr (.inl vo)))]) (wc := [(ad 0, .inr (0, [.ref (ad 2), .ref (ad 5), .ref (ad 13), .ref (ad 25), .ref (ad 27), .ref (ad 1), .int v_room_toldCount])), (ad 5, .inr (2, [.ref (ad 6), .ref (ad 7), .ref (ad 8), .ref (ad 9), .ref (ad 10), .ref (ad 11), .ref (ad 12), .int v_items_mustSet, .int v_items_count])), (ad 6, .inl (ki 0, n_iwid, .inl v_iwid)), (ad 7, .inl (ki 0, n_inee, .inl v_inee)), (ad 10, .inl (ki 0, n_iswi, .inl v_iswi)), (ad 11, .inl (ki 1, n_iswo, .inr (.inl v_iswo))), (ad 12, .inl (ki 1, n_isce, .inr (.inl v_isce)))]) ⟨hx, hb, hml, hown, hts⟩ (c_RoomFills_item l hl9 D ad ki n_iwid n_inee n_iswi n_iswo n_isce v_room_toldCount v_items_mustSet v_items_count v_iwid v_inee v_iswi v_iswo v_isce p1 p2 p3 N s.heap.size 2 r ov_room_toldCount ov_items_count ov_iwid ov_inee ov_iswi ov_iswo ov_isce hf) (cwV 3 hts (q_goodV ⟨m_664, m_665, m_666, m_54⟩ m_667) rfl rfl rfl (by decide +kernel) ⟨Nat.le_of_ble_eq_true rfl, Nat.le_of_ble_eq_true rfl⟩) (q_preVMX3 hE hZ hK hP hD hS hA (by decide +kernel) hC 0 0 rfl rfl) rfl hl.1 rfl (lv_room (Nat.le_of_ble_eq_true rfl)) d_Law_item_8 ⟨Nat.le_of_ble_eq_true rfl, Nat.le_of_ble_eq_true rfl⟩ hP hD hS hA hC [ad 0, ad 5, ad 6, ad 7, ad 10, ad 11, ad 12, ad 49] rfl rfl (fun H1 h1 hk => (q_c (h1 0 _ rfl) (q_c (h1 1 _ rfl) (q_c (h1 2 _ rfl) (q_c (h1 3 _ rfl) (q_c (h1 4 _ rfl) (q_c (h1 5 _ rfl) (q_c (h1 6 _ rfl) (q_c (hk 7 _ rfl (by decide)) q_n))))))))) rfl ?_ ?_
  · intro h0
    exact absurd h0 (by decide)
  · intro _ q H ce g1 g2 g3 hP hS
    obtain ⟨x0, x1, hsp, hx0, hx1⟩ := q_tab2 htab
    have e1_0 : x0.startPc = 0 := congrArg (fun z => z.1) hx0
    have e2_0 : x0.endPc = 13 := congrArg (fun z => z.2.1) hx0
    have e3_0 : x0.handlerPc = 16 := congrArg (fun z => z.2.2.1) hx0
    have e4_0 : x0.catchType = 23 := congrArg (fun z => z.2.2.2) hx0
    have e1_1 : x1.startPc = 0 := congrArg (fun z => z.1) hx1
    have e2_1 : x1.endPc = 13 := congrArg (fun z => z.2.1) hx1
    have e3_1 : x1.handlerPc = 20 := congrArg (fun z => z.2.2.1) hx1
    have e4_1 : x1.catchType = 13 := congrArg (fun z => z.2.2.2) hx1
    have hpass : ∀ z ∈ ([x0] : List ExceptionTableEntry), z.catchType ≠ 0 ∧ ∃ nm : String, (Cond.classLink R_Law z.catchType nm).before ([.ref (ad 0), .int p1, .long p2, .long p3, .ref (ad 49)] : List Value).toArray s = true ∧ va_Nc "java/lang/IllegalArgumentException" nm s := by
      intro z hz
      simp only [List.mem_cons, List.not_mem_nil, or_false] at hz
      rcases hz with rfl
      · exact ⟨by rw [e4_0]; decide, "java/lang/IllegalStateException", (by rw [e4_0]; exact hts (.classLink R_Law 23 "java/lang/IllegalStateException") (List.mem_cons_of_mem _ m_663)), hE.2.2 ("java/lang/IllegalArgumentException", "java/lang/IllegalStateException") (by decide)⟩
    have hcw : Cond.castable "java/lang/IllegalArgumentException" "java/lang/IllegalArgumentException" ∈ q_NW := by decide
    refine q_catch (E := "java/lang/IllegalArgumentException") (name := "java/lang/IllegalArgumentException") hown [x0] x1 [] hsp hpass (by simp [covers, e1_1, e2_1]) (by rw [e4_1]; decide) (by rw [e4_1]; exact hts (.classLink R_Law 13 "java/lang/IllegalArgumentException") (List.mem_cons_of_mem _ m_565)) (va_Nw.use (q_NW_ok _ hcw) (hE.1 _ hcw)) g1 g2 g3 ?_
    rw [e3_1]
    refine lv_astore (lv' := ((7, .ref q) :: [(0, .ref (ad 0)), (1, .int p1), (2, .long p2), (4, .long p3), (6, .ref (ad 49))])) hx hb d_Law_item_20 hl (by decide) rfl (fun ls hl => ?_)
    refine lv_iconst (v := 2) hx hb d_Law_item_22 (by decide) ?_
    exact W.widen (Nat.le_of_ble_eq_true rfl) (Nat.le_of_ble_eq_true rfl) (W.iret (v := 2) hx hb hr (fun t ht hW => ⟨rfl, by rw [ht]; exact hP, hS.F ht⟩) hS.2.2 d_Law_item_23)
set_option maxRecDepth 100000 in
set_option maxHeartbeats 4000000 in
theorem x_Law_need_0 (l : Launch) (hl9 : l.stackTraces = false) (D : va_G) (ad : Nat → Nat) (ki : Nat → ClassId) (n_inee : Nat) (v_room_toldCount : Int32) (v_items_mustSet : Int32) (v_items_count : Int32) (v_inee : Nat → Int32) (p1 : Int32) (p2 : Int32) (N : Nat) (sz : Nat) (vo : Nat → Int64) (r : Bool) (ov_room_toldCount : Int32) (ov_inee : Nat → Int32) (hf : f_RoomFills_need N n_inee v_room_toldCount v_items_mustSet v_items_count v_inee p1 p2 = some (0, r, ov_room_toldCount, ov_inee)) : Met l y_Law_need w_Law_need { frames := 9, cells := 4, slots := 24, locals := 240 } (q_PcMX [.ref (ad 0), .int p1, .int p2, .ref (ad 49)] D vwCl [(ad 0, .inr (0, [.ref (ad 2), .ref (ad 5), .ref (ad 13), .ref (ad 25), .ref (ad 27), .ref (ad 1), .int v_room_toldCount])), (ad 5, .inr (2, [.ref (ad 6), .ref (ad 7), .ref (ad 8), .ref (ad 9), .ref (ad 10), .ref (ad 11), .ref (ad 12), .int v_items_mustSet, .int v_items_count])), (ad 7, .inl (ki 0, n_inee, .inl v_inee)), (ad 49, .inl (ki 1, 1, .inr (.inl vo)))] (TYS ki) sz) (q_Qm (some (.int 0)) D vwCl [(ad 0, .inr (0, [.ref (ad 2), .ref (ad 5), .ref (ad 13), .ref (ad 25), .ref (ad 27), .ref (ad 1), .int ov_room_toldCount])), (ad 5, .inr (2, [.ref (ad 6), .ref (ad 7), .ref (ad 8), .ref (ad 9), .ref (ad 10), .ref (ad 11), .ref (ad 12), .int v_items_mustSet, .int v_items_count])), (ad 7, .inl (ki 0, n_inee, .inl ov_inee)), (ad 49, .inl (ki 1, 1, .inr (.inl (vp_updL vo (Int32.toNatClampNeg 0) (bJ r)))))] (va_A [(ad 0, .inr (0, [.ref (ad 2), .ref (ad 5), .ref (ad 13), .ref (ad 25), .ref (ad 27), .ref (ad 1), .int v_room_toldCount])), (ad 5, .inr (2, [.ref (ad 6), .ref (ad 7), .ref (ad 8), .ref (ad 9), .ref (ad 10), .ref (ad 11), .ref (ad 12), .int v_items_mustSet, .int v_items_count])), (ad 7, .inl (ki 0, n_inee, .inl v_inee)), (ad 49, .inl (ki 1, 1, .inr (.inl vo)))] sz)) 4 24 (va_A [(ad 0, .inr (0, [.ref (ad 2), .ref (ad 5), .ref (ad 13), .ref (ad 25), .ref (ad 27), .ref (ad 1), .int v_room_toldCount])), (ad 5, .inr (2, [.ref (ad 6), .ref (ad 7), .ref (ad 8), .ref (ad 9), .ref (ad 10), .ref (ad 11), .ref (ad 12), .int v_items_mustSet, .int v_items_count])), (ad 7, .inl (ki 0, n_inee, .inl v_inee)), (ad 49, .inl (ki 1, 1, .inr (.inl vo)))] sz) := by
  refine q_ofWW (cc := b_Law_need) (maxL := 5) (ret := some .int) (by decide) rfl ?_
  intro p e s m args below meth c s₁ B hml htab hv
  obtain ⟨rfl, hsz, hP, hK, hD0, hE, hZ⟩ := hv
  have hx := B.exec
  have hb := B.bytes
  have hr := B.returns
  have hts := atoms_spec (ws := w_Law_need) B.pre
  have hown : s.vm.findClass R_Law = some m.cls := findClass_of_methodNamed B.named
  subst hsz
  have hD := hD0.self (sz := s.heap.size)
  generalize hAe : va_A [(ad 0, .inr (0, [.ref (ad 2), .ref (ad 5), .ref (ad 13), .ref (ad 25), .ref (ad 27), .ref (ad 1), .int v_room_toldCount])), (ad 5, .inr (2, [.ref (ad 6), .ref (ad 7), .ref (ad 8), .ref (ad 9), .ref (ad 10), .ref (ad 11), .ref (ad 12), .int v_items_mustSet, .int v_items_count])), (ad 7, .inl (ki 0, n_inee, .inl v_inee)), (ad 49, .inl (ki 1, 1, .inr (.inl vo)))] s.heap.size = A at hD hZ ⊢
  have hA : ∀ q : Nat, s.heap.size ≤ q → A q := fun q h => by rw [← hAe]; exact Or.inr h
  have hS : va_S A s.heap s.heap [] := va_S.rf
  replace hP : va_P D vwCl [(ad 0, .inr (0, [.ref (ad 2), .ref (ad 5), .ref (ad 13), .ref (ad 25), .ref (ad 27), .ref (ad 1), .int v_room_toldCount])), (ad 5, .inr (2, [.ref (ad 6), .ref (ad 7), .ref (ad 8), .ref (ad 9), .ref (ad 10), .ref (ad 11), .ref (ad 12), .int v_items_mustSet, .int v_items_count])), (ad 7, .inl (ki 0, n_inee, .inl v_inee)), (ad 49, .inl (ki 1, 1, .inr (.inl vo)))] s.heap := hP
  have hl := lv_entry ([.ref (ad 0), .int p1, .int p2, .ref (ad 49)]) (n := 5) (Nat.le_of_ble_eq_true rfl)
  rw [lg_entry_eq]
  generalize (lg_sl ([.ref (ad 0), .int p1, .int p2, .ref (ad 49)]) ++ List.replicate (5 - (lg_sl ([.ref (ad 0), .int p1, .int p2, .ref (ad 49)])).length) Slot.unset).toArray = ls at hl ⊢
  replace hl : lv_has ls 5 [(0, .ref (ad 0)), (1, .int p1), (2, .int p2), (3, .ref (ad 49))] := hl
  refine lv_aload_n hx hb d_Law_need_0 rfl (lv_at hl 3 rfl) ?_
  refine lv_iconst (v := 0) hx hb d_Law_need_1 (by decide) ?_
  refine lv_aload_n hx hb d_Law_need_2 rfl (lv_at hl 0 rfl) ?_
  refine lv_iload_n hx hb d_Law_need_3 rfl (lv_at hl 1 rfl) ?_
  refine lv_iload_n hx hb d_Law_need_4 rfl (lv_at hl 2 rfl) ?_
  have hC : ([0, 1, 2] : List Nat).map (fun i => ([(ad 0, .inr (0, [.ref (ad 2), .ref (ad 5), .ref (ad 13), .ref (ad 25), .ref (ad 27), .ref (ad 1), .int v_room_toldCount])), (ad 5, .inr (2, [.ref (ad 6), .ref (ad 7), .ref (ad 8), .ref (ad 9), .ref (ad 10), .ref (ad 11), .ref (ad 12), .int v_items_mustSet, .int v_items_count])), (ad 7, .inl (ki 0, n_inee, .inl v_inee)), (ad 49, .inl (ki 1, 1, .inr (.inl vo)))] : va_W)[i]?) = ([(ad 0, .inr (0, [.ref (ad 2), .ref (ad 5), .ref (ad 13), .ref (ad 25), .ref (ad 27), .ref (ad 1), .int v_room_toldCount])), (ad 5, .inr (2, [.ref (ad 6), .ref (ad 7), .ref (ad 8), .ref (ad 9), .ref (ad 10), .ref (ad 11), .ref (ad 12), .int v_items_mustSet, .int v_items_count])), (ad 7, .inl (ki 0, n_inee, .inl v_inee))] : va_W).map some := rfl
  refine q_xcall3 (As := [.int p1, .int p2]) (rest := [.int 0, .ref (ad 49)]) (stk := [.int (bI r), .int 0, .ref (ad 49)]) (w1 := [(ad 0, .inr (0, [.ref (ad 2), .ref (ad 5), .ref (ad 13), .ref (ad 25), .ref (ad 27), .ref (ad 1), .int ov_room_toldCount])), (ad 5, .inr (2, [.ref (ad 6), .ref (ad 7), .ref (ad 8), .ref (ad 9), .ref (ad 10), .ref (ad 11), .ref (ad 12), .int v_items_mustSet, .int v_items_count])), (ad 7, .inl (ki 0, n_inee, .inl ov_inee))]) (ws' := [(ad 0, .inr (0, [.ref (ad 2), .ref (ad 5), .ref (ad 13), .ref (ad 25), .ref (ad 27), .ref (ad 1), .int ov_room_toldCount])), (ad 5, .inr (2, [.ref (ad 6), .ref (ad 7), .ref (ad 8), .ref (ad 9), .ref (ad 10), .ref (ad 11), .ref (ad 12), .int v_items_mustSet, .int v_items_count])), (ad 7, .inl (ki 0, n_inee, .inl ov_inee)), (ad 49, .inl (ki 1, 1, .inr (.inl vo)))]) (wc := [(ad 0, .inr (0, [.ref (ad 2), .ref (ad 5), .ref (ad 13), .ref (ad 25), .ref (ad 27), .ref (ad 1), .int v_room_toldCount])), (ad 5, .inr (2, [.ref (ad 6), .ref (ad 7), .ref (ad 8), .ref (ad 9), .ref (ad 10), .ref (ad 11), .ref (ad 12), .int v_items_mustSet, .int v_items_count])), (ad 7, .inl (ki 0, n_inee, .inl v_inee))]) ⟨hx, hb, hml, hown, hts⟩ (c_RoomFills_need l hl9 D ad ki n_inee v_room_toldCount v_items_mustSet v_items_count v_inee p1 p2 N s.heap.size 0 r ov_room_toldCount ov_inee hf) (cwV 2 hts (q_goodV ⟨m_697, m_698, m_699, m_54⟩ m_700) rfl rfl rfl (by decide +kernel) ⟨Nat.le_of_ble_eq_true rfl, Nat.le_of_ble_eq_true rfl⟩) (q_preVMX3 hE hZ hK hP hD hS hA (by decide +kernel) hC 0 0 rfl rfl) rfl hl.1 rfl (lv_room (Nat.le_of_ble_eq_true rfl)) d_Law_need_5 ⟨Nat.le_of_ble_eq_true rfl, Nat.le_of_ble_eq_true rfl⟩ hP hD hS hA hC [ad 0, ad 5, ad 7, ad 49] rfl rfl (fun H1 h1 hk => (q_c (h1 0 _ rfl) (q_c (h1 1 _ rfl) (q_c (h1 2 _ rfl) (q_c (hk 3 _ rfl (by decide)) q_n))))) rfl ?_ ?_
  · intro _
    intro H locs hP hD hS
    refine zv_eq (tgt := 15) hx hb d_Law_need_8 (by decide) (fun c9 => ?_) (fun c9 => ?_)
    · rw [show bJ r = 0 from if_neg c9]
      refine lv_lconst (v := 0) hx hb d_Law_need_15 (by decide) ?_
      refine va_last (x := 0) hx hb hK hP hD hS 3 1 rfl rfl q_in01 d_Law_need_16 (fun H locs hP hD hS => ?_)
      replace hP : va_P D vwCl [(ad 0, .inr (0, [.ref (ad 2), .ref (ad 5), .ref (ad 13), .ref (ad 25), .ref (ad 27), .ref (ad 1), .int ov_room_toldCount])), (ad 5, .inr (2, [.ref (ad 6), .ref (ad 7), .ref (ad 8), .ref (ad 9), .ref (ad 10), .ref (ad 11), .ref (ad 12), .int v_items_mustSet, .int v_items_count])), (ad 7, .inl (ki 0, n_inee, .inl ov_inee)), (ad 49, .inl (ki 1, 1, .inr (.inl (vp_updL vo (Int32.toNatClampNeg 0) 0))))] H := hP
      refine lv_goto (tgt := 28) hx hb d_Law_need_17 (by decide) ?_
      refine lv_iconst (v := 0) hx hb d_Law_need_28 (by decide) ?_
      exact W.widen (Nat.le_of_ble_eq_true rfl) (Nat.le_of_ble_eq_true rfl) (W.iret (v := 0) hx hb hr (fun t ht hW => ⟨rfl, by rw [ht]; exact hP, hS.F ht⟩) hS.2.2 d_Law_need_29)
    · rw [show bJ r = 1 from if_pos c9]
      refine lv_lconst (v := 1) hx hb d_Law_need_11 (by decide) ?_
      refine lv_goto (tgt := 16) hx hb d_Law_need_12 (by decide) ?_
      refine va_last (x := 1) hx hb hK hP hD hS 3 1 rfl rfl q_in01 d_Law_need_16 (fun H locs hP hD hS => ?_)
      replace hP : va_P D vwCl [(ad 0, .inr (0, [.ref (ad 2), .ref (ad 5), .ref (ad 13), .ref (ad 25), .ref (ad 27), .ref (ad 1), .int ov_room_toldCount])), (ad 5, .inr (2, [.ref (ad 6), .ref (ad 7), .ref (ad 8), .ref (ad 9), .ref (ad 10), .ref (ad 11), .ref (ad 12), .int v_items_mustSet, .int v_items_count])), (ad 7, .inl (ki 0, n_inee, .inl ov_inee)), (ad 49, .inl (ki 1, 1, .inr (.inl (vp_updL vo (Int32.toNatClampNeg 0) 1))))] H := hP
      refine lv_goto (tgt := 28) hx hb d_Law_need_17 (by decide) ?_
      refine lv_iconst (v := 0) hx hb d_Law_need_28 (by decide) ?_
      exact W.widen (Nat.le_of_ble_eq_true rfl) (Nat.le_of_ble_eq_true rfl) (W.iret (v := 0) hx hb hr (fun t ht hW => ⟨rfl, by rw [ht]; exact hP, hS.F ht⟩) hS.2.2 d_Law_need_29)
  · intro h0
    exact absurd rfl h0
set_option maxRecDepth 100000 in
set_option maxHeartbeats 4000000 in
theorem x_Law_need_3 (l : Launch) (hl9 : l.stackTraces = false) (D : va_G) (ad : Nat → Nat) (ki : Nat → ClassId) (n_inee : Nat) (v_room_toldCount : Int32) (v_items_mustSet : Int32) (v_items_count : Int32) (v_inee : Nat → Int32) (p1 : Int32) (p2 : Int32) (N : Nat) (sz : Nat) (vo : Nat → Int64) (r : Bool) (ov_room_toldCount : Int32) (ov_inee : Nat → Int32) (hf : f_RoomFills_need N n_inee v_room_toldCount v_items_mustSet v_items_count v_inee p1 p2 = some (3, r, ov_room_toldCount, ov_inee)) : Met l y_Law_need w_Law_need { frames := 9, cells := 4, slots := 24, locals := 240 } (q_PcMX [.ref (ad 0), .int p1, .int p2, .ref (ad 49)] D vwCl [(ad 0, .inr (0, [.ref (ad 2), .ref (ad 5), .ref (ad 13), .ref (ad 25), .ref (ad 27), .ref (ad 1), .int v_room_toldCount])), (ad 5, .inr (2, [.ref (ad 6), .ref (ad 7), .ref (ad 8), .ref (ad 9), .ref (ad 10), .ref (ad 11), .ref (ad 12), .int v_items_mustSet, .int v_items_count])), (ad 7, .inl (ki 0, n_inee, .inl v_inee)), (ad 49, .inl (ki 1, 1, .inr (.inl vo)))] (TYS ki) sz) (q_Qm (some (.int 1)) D vwCl [(ad 0, .inr (0, [.ref (ad 2), .ref (ad 5), .ref (ad 13), .ref (ad 25), .ref (ad 27), .ref (ad 1), .int v_room_toldCount])), (ad 5, .inr (2, [.ref (ad 6), .ref (ad 7), .ref (ad 8), .ref (ad 9), .ref (ad 10), .ref (ad 11), .ref (ad 12), .int v_items_mustSet, .int v_items_count])), (ad 7, .inl (ki 0, n_inee, .inl v_inee)), (ad 49, .inl (ki 1, 1, .inr (.inl vo)))] (va_A [(ad 0, .inr (0, [.ref (ad 2), .ref (ad 5), .ref (ad 13), .ref (ad 25), .ref (ad 27), .ref (ad 1), .int v_room_toldCount])), (ad 5, .inr (2, [.ref (ad 6), .ref (ad 7), .ref (ad 8), .ref (ad 9), .ref (ad 10), .ref (ad 11), .ref (ad 12), .int v_items_mustSet, .int v_items_count])), (ad 7, .inl (ki 0, n_inee, .inl v_inee)), (ad 49, .inl (ki 1, 1, .inr (.inl vo)))] sz)) 4 24 (va_A [(ad 0, .inr (0, [.ref (ad 2), .ref (ad 5), .ref (ad 13), .ref (ad 25), .ref (ad 27), .ref (ad 1), .int v_room_toldCount])), (ad 5, .inr (2, [.ref (ad 6), .ref (ad 7), .ref (ad 8), .ref (ad 9), .ref (ad 10), .ref (ad 11), .ref (ad 12), .int v_items_mustSet, .int v_items_count])), (ad 7, .inl (ki 0, n_inee, .inl v_inee)), (ad 49, .inl (ki 1, 1, .inr (.inl vo)))] sz) := by
  refine q_ofWW (cc := b_Law_need) (maxL := 5) (ret := some .int) (by decide) rfl ?_
  intro p e s m args below meth c s₁ B hml htab hv
  obtain ⟨rfl, hsz, hP, hK, hD0, hE, hZ⟩ := hv
  have hx := B.exec
  have hb := B.bytes
  have hr := B.returns
  have hts := atoms_spec (ws := w_Law_need) B.pre
  have hown : s.vm.findClass R_Law = some m.cls := findClass_of_methodNamed B.named
  subst hsz
  have hD := hD0.self (sz := s.heap.size)
  generalize hAe : va_A [(ad 0, .inr (0, [.ref (ad 2), .ref (ad 5), .ref (ad 13), .ref (ad 25), .ref (ad 27), .ref (ad 1), .int v_room_toldCount])), (ad 5, .inr (2, [.ref (ad 6), .ref (ad 7), .ref (ad 8), .ref (ad 9), .ref (ad 10), .ref (ad 11), .ref (ad 12), .int v_items_mustSet, .int v_items_count])), (ad 7, .inl (ki 0, n_inee, .inl v_inee)), (ad 49, .inl (ki 1, 1, .inr (.inl vo)))] s.heap.size = A at hD hZ ⊢
  have hA : ∀ q : Nat, s.heap.size ≤ q → A q := fun q h => by rw [← hAe]; exact Or.inr h
  have hS : va_S A s.heap s.heap [] := va_S.rf
  replace hP : va_P D vwCl [(ad 0, .inr (0, [.ref (ad 2), .ref (ad 5), .ref (ad 13), .ref (ad 25), .ref (ad 27), .ref (ad 1), .int v_room_toldCount])), (ad 5, .inr (2, [.ref (ad 6), .ref (ad 7), .ref (ad 8), .ref (ad 9), .ref (ad 10), .ref (ad 11), .ref (ad 12), .int v_items_mustSet, .int v_items_count])), (ad 7, .inl (ki 0, n_inee, .inl v_inee)), (ad 49, .inl (ki 1, 1, .inr (.inl vo)))] s.heap := hP
  have hl := lv_entry ([.ref (ad 0), .int p1, .int p2, .ref (ad 49)]) (n := 5) (Nat.le_of_ble_eq_true rfl)
  rw [lg_entry_eq]
  generalize (lg_sl ([.ref (ad 0), .int p1, .int p2, .ref (ad 49)]) ++ List.replicate (5 - (lg_sl ([.ref (ad 0), .int p1, .int p2, .ref (ad 49)])).length) Slot.unset).toArray = ls at hl ⊢
  replace hl : lv_has ls 5 [(0, .ref (ad 0)), (1, .int p1), (2, .int p2), (3, .ref (ad 49))] := hl
  refine lv_aload_n hx hb d_Law_need_0 rfl (lv_at hl 3 rfl) ?_
  refine lv_iconst (v := 0) hx hb d_Law_need_1 (by decide) ?_
  refine lv_aload_n hx hb d_Law_need_2 rfl (lv_at hl 0 rfl) ?_
  refine lv_iload_n hx hb d_Law_need_3 rfl (lv_at hl 1 rfl) ?_
  refine lv_iload_n hx hb d_Law_need_4 rfl (lv_at hl 2 rfl) ?_
  have hC : ([0, 1, 2] : List Nat).map (fun i => ([(ad 0, .inr (0, [.ref (ad 2), .ref (ad 5), .ref (ad 13), .ref (ad 25), .ref (ad 27), .ref (ad 1), .int v_room_toldCount])), (ad 5, .inr (2, [.ref (ad 6), .ref (ad 7), .ref (ad 8), .ref (ad 9), .ref (ad 10), .ref (ad 11), .ref (ad 12), .int v_items_mustSet, .int v_items_count])), (ad 7, .inl (ki 0, n_inee, .inl v_inee)), (ad 49, .inl (ki 1, 1, .inr (.inl vo)))] : va_W)[i]?) = ([(ad 0, .inr (0, [.ref (ad 2), .ref (ad 5), .ref (ad 13), .ref (ad 25), .ref (ad 27), .ref (ad 1), .int v_room_toldCount])), (ad 5, .inr (2, [.ref (ad 6), .ref (ad 7), .ref (ad 8), .ref (ad 9), .ref (ad 10), .ref (ad 11), .ref (ad 12), .int v_items_mustSet, .int v_items_count])), (ad 7, .inl (ki 0, n_inee, .inl v_inee))] : va_W).map some := rfl
  refine q_xcall3 (As := [.int p1, .int p2]) (rest := [.int 0, .ref (ad 49)]) (stk := [.int (bI r), .int 0, .ref (ad 49)]) (w1 := [(ad 0, .inr (0, [.ref (ad 2), .ref (ad 5), .ref (ad 13), .ref (ad 25), .ref (ad 27), .ref (ad 1), .int ov_room_toldCount])), (ad 5, .inr (2, [.ref (ad 6), .ref (ad 7), .ref (ad 8), .ref (ad 9), .ref (ad 10), .ref (ad 11), .ref (ad 12), .int v_items_mustSet, .int v_items_count])), (ad 7, .inl (ki 0, n_inee, .inl ov_inee))]) (ws' := [(ad 0, .inr (0, [.ref (ad 2), .ref (ad 5), .ref (ad 13), .ref (ad 25), .ref (ad 27), .ref (ad 1), .int ov_room_toldCount])), (ad 5, .inr (2, [.ref (ad 6), .ref (ad 7), .ref (ad 8), .ref (ad 9), .ref (ad 10), .ref (ad 11), .ref (ad 12), .int v_items_mustSet, .int v_items_count])), (ad 7, .inl (ki 0, n_inee, .inl ov_inee)), (ad 49, .inl (ki 1, 1, .inr (.inl vo)))]) (wc := [(ad 0, .inr (0, [.ref (ad 2), .ref (ad 5), .ref (ad 13), .ref (ad 25), .ref (ad 27), .ref (ad 1), .int v_room_toldCount])), (ad 5, .inr (2, [.ref (ad 6), .ref (ad 7), .ref (ad 8), .ref (ad 9), .ref (ad 10), .ref (ad 11), .ref (ad 12), .int v_items_mustSet, .int v_items_count])), (ad 7, .inl (ki 0, n_inee, .inl v_inee))]) ⟨hx, hb, hml, hown, hts⟩ (c_RoomFills_need l hl9 D ad ki n_inee v_room_toldCount v_items_mustSet v_items_count v_inee p1 p2 N s.heap.size 3 r ov_room_toldCount ov_inee hf) (cwV 2 hts (q_goodV ⟨m_697, m_698, m_699, m_54⟩ m_700) rfl rfl rfl (by decide +kernel) ⟨Nat.le_of_ble_eq_true rfl, Nat.le_of_ble_eq_true rfl⟩) (q_preVMX3 hE hZ hK hP hD hS hA (by decide +kernel) hC 0 0 rfl rfl) rfl hl.1 rfl (lv_room (Nat.le_of_ble_eq_true rfl)) d_Law_need_5 ⟨Nat.le_of_ble_eq_true rfl, Nat.le_of_ble_eq_true rfl⟩ hP hD hS hA hC [ad 0, ad 5, ad 7, ad 49] rfl rfl (fun H1 h1 hk => (q_c (h1 0 _ rfl) (q_c (h1 1 _ rfl) (q_c (h1 2 _ rfl) (q_c (hk 3 _ rfl (by decide)) q_n))))) rfl ?_ ?_
  · intro h0
    exact absurd h0 (by decide)
  · intro _ q H ce g1 g2 g3 hP hS
    obtain ⟨x0, x1, hsp, hx0, hx1⟩ := q_tab2 htab
    have e1_0 : x0.startPc = 0 := congrArg (fun z => z.1) hx0
    have e2_0 : x0.endPc = 17 := congrArg (fun z => z.2.1) hx0
    have e3_0 : x0.handlerPc = 20 := congrArg (fun z => z.2.2.1) hx0
    have e4_0 : x0.catchType = 28 := congrArg (fun z => z.2.2.2) hx0
    have hpass : ∀ z ∈ ([] : List ExceptionTableEntry), z.catchType ≠ 0 ∧ ∃ nm : String, (Cond.classLink R_Law z.catchType nm).before ([.ref (ad 0), .int p1, .int p2, .ref (ad 49)] : List Value).toArray s = true ∧ va_Nc "java/lang/IndexOutOfBoundsException" nm s := by
      intro z hz
      cases hz
    have hcw : Cond.castable "java/lang/IndexOutOfBoundsException" "java/lang/IndexOutOfBoundsException" ∈ q_NW := by decide
    refine q_catch (E := "java/lang/IndexOutOfBoundsException") (name := "java/lang/IndexOutOfBoundsException") hown [] x0 [x1] hsp hpass (by simp [covers, e1_0, e2_0]) (by rw [e4_0]; decide) (by rw [e4_0]; exact hts (.classLink R_Law 28 "java/lang/IndexOutOfBoundsException") (List.mem_cons_of_mem _ m_696)) (va_Nw.use (q_NW_ok _ hcw) (hE.1 _ hcw)) g1 g2 g3 ?_
    rw [e3_0]
    refine lv_astore (lv' := ((4, .ref q) :: [(0, .ref (ad 0)), (1, .int p1), (2, .int p2), (3, .ref (ad 49))])) hx hb d_Law_need_20 hl (by decide) rfl (fun ls hl => ?_)
    refine lv_iconst (v := 1) hx hb d_Law_need_22 (by decide) ?_
    exact W.widen (Nat.le_of_ble_eq_true rfl) (Nat.le_of_ble_eq_true rfl) (W.iret (v := 1) hx hb hr (fun t ht hW => ⟨rfl, by rw [ht]; exact hP, hS.F ht⟩) hS.2.2 d_Law_need_23)
set_option maxRecDepth 100000 in
set_option maxHeartbeats 4000000 in
theorem x_Law_need_2 (l : Launch) (hl9 : l.stackTraces = false) (D : va_G) (ad : Nat → Nat) (ki : Nat → ClassId) (n_inee : Nat) (v_room_toldCount : Int32) (v_items_mustSet : Int32) (v_items_count : Int32) (v_inee : Nat → Int32) (p1 : Int32) (p2 : Int32) (N : Nat) (sz : Nat) (vo : Nat → Int64) (r : Bool) (ov_room_toldCount : Int32) (ov_inee : Nat → Int32) (hf : f_RoomFills_need N n_inee v_room_toldCount v_items_mustSet v_items_count v_inee p1 p2 = some (2, r, ov_room_toldCount, ov_inee)) : Met l y_Law_need w_Law_need { frames := 9, cells := 4, slots := 24, locals := 240 } (q_PcMX [.ref (ad 0), .int p1, .int p2, .ref (ad 49)] D vwCl [(ad 0, .inr (0, [.ref (ad 2), .ref (ad 5), .ref (ad 13), .ref (ad 25), .ref (ad 27), .ref (ad 1), .int v_room_toldCount])), (ad 5, .inr (2, [.ref (ad 6), .ref (ad 7), .ref (ad 8), .ref (ad 9), .ref (ad 10), .ref (ad 11), .ref (ad 12), .int v_items_mustSet, .int v_items_count])), (ad 7, .inl (ki 0, n_inee, .inl v_inee)), (ad 49, .inl (ki 1, 1, .inr (.inl vo)))] (TYS ki) sz) (q_Qm (some (.int 2)) D vwCl [(ad 0, .inr (0, [.ref (ad 2), .ref (ad 5), .ref (ad 13), .ref (ad 25), .ref (ad 27), .ref (ad 1), .int v_room_toldCount])), (ad 5, .inr (2, [.ref (ad 6), .ref (ad 7), .ref (ad 8), .ref (ad 9), .ref (ad 10), .ref (ad 11), .ref (ad 12), .int v_items_mustSet, .int v_items_count])), (ad 7, .inl (ki 0, n_inee, .inl v_inee)), (ad 49, .inl (ki 1, 1, .inr (.inl vo)))] (va_A [(ad 0, .inr (0, [.ref (ad 2), .ref (ad 5), .ref (ad 13), .ref (ad 25), .ref (ad 27), .ref (ad 1), .int v_room_toldCount])), (ad 5, .inr (2, [.ref (ad 6), .ref (ad 7), .ref (ad 8), .ref (ad 9), .ref (ad 10), .ref (ad 11), .ref (ad 12), .int v_items_mustSet, .int v_items_count])), (ad 7, .inl (ki 0, n_inee, .inl v_inee)), (ad 49, .inl (ki 1, 1, .inr (.inl vo)))] sz)) 4 24 (va_A [(ad 0, .inr (0, [.ref (ad 2), .ref (ad 5), .ref (ad 13), .ref (ad 25), .ref (ad 27), .ref (ad 1), .int v_room_toldCount])), (ad 5, .inr (2, [.ref (ad 6), .ref (ad 7), .ref (ad 8), .ref (ad 9), .ref (ad 10), .ref (ad 11), .ref (ad 12), .int v_items_mustSet, .int v_items_count])), (ad 7, .inl (ki 0, n_inee, .inl v_inee)), (ad 49, .inl (ki 1, 1, .inr (.inl vo)))] sz) := by
  refine q_ofWW (cc := b_Law_need) (maxL := 5) (ret := some .int) (by decide) rfl ?_
  intro p e s m args below meth c s₁ B hml htab hv
  obtain ⟨rfl, hsz, hP, hK, hD0, hE, hZ⟩ := hv
  have hx := B.exec
  have hb := B.bytes
  have hr := B.returns
  have hts := atoms_spec (ws := w_Law_need) B.pre
  have hown : s.vm.findClass R_Law = some m.cls := findClass_of_methodNamed B.named
  subst hsz
  have hD := hD0.self (sz := s.heap.size)
  generalize hAe : va_A [(ad 0, .inr (0, [.ref (ad 2), .ref (ad 5), .ref (ad 13), .ref (ad 25), .ref (ad 27), .ref (ad 1), .int v_room_toldCount])), (ad 5, .inr (2, [.ref (ad 6), .ref (ad 7), .ref (ad 8), .ref (ad 9), .ref (ad 10), .ref (ad 11), .ref (ad 12), .int v_items_mustSet, .int v_items_count])), (ad 7, .inl (ki 0, n_inee, .inl v_inee)), (ad 49, .inl (ki 1, 1, .inr (.inl vo)))] s.heap.size = A at hD hZ ⊢
  have hA : ∀ q : Nat, s.heap.size ≤ q → A q := fun q h => by rw [← hAe]; exact Or.inr h
  have hS : va_S A s.heap s.heap [] := va_S.rf
  replace hP : va_P D vwCl [(ad 0, .inr (0, [.ref (ad 2), .ref (ad 5), .ref (ad 13), .ref (ad 25), .ref (ad 27), .ref (ad 1), .int v_room_toldCount])), (ad 5, .inr (2, [.ref (ad 6), .ref (ad 7), .ref (ad 8), .ref (ad 9), .ref (ad 10), .ref (ad 11), .ref (ad 12), .int v_items_mustSet, .int v_items_count])), (ad 7, .inl (ki 0, n_inee, .inl v_inee)), (ad 49, .inl (ki 1, 1, .inr (.inl vo)))] s.heap := hP
  have hl := lv_entry ([.ref (ad 0), .int p1, .int p2, .ref (ad 49)]) (n := 5) (Nat.le_of_ble_eq_true rfl)
  rw [lg_entry_eq]
  generalize (lg_sl ([.ref (ad 0), .int p1, .int p2, .ref (ad 49)]) ++ List.replicate (5 - (lg_sl ([.ref (ad 0), .int p1, .int p2, .ref (ad 49)])).length) Slot.unset).toArray = ls at hl ⊢
  replace hl : lv_has ls 5 [(0, .ref (ad 0)), (1, .int p1), (2, .int p2), (3, .ref (ad 49))] := hl
  refine lv_aload_n hx hb d_Law_need_0 rfl (lv_at hl 3 rfl) ?_
  refine lv_iconst (v := 0) hx hb d_Law_need_1 (by decide) ?_
  refine lv_aload_n hx hb d_Law_need_2 rfl (lv_at hl 0 rfl) ?_
  refine lv_iload_n hx hb d_Law_need_3 rfl (lv_at hl 1 rfl) ?_
  refine lv_iload_n hx hb d_Law_need_4 rfl (lv_at hl 2 rfl) ?_
  have hC : ([0, 1, 2] : List Nat).map (fun i => ([(ad 0, .inr (0, [.ref (ad 2), .ref (ad 5), .ref (ad 13), .ref (ad 25), .ref (ad 27), .ref (ad 1), .int v_room_toldCount])), (ad 5, .inr (2, [.ref (ad 6), .ref (ad 7), .ref (ad 8), .ref (ad 9), .ref (ad 10), .ref (ad 11), .ref (ad 12), .int v_items_mustSet, .int v_items_count])), (ad 7, .inl (ki 0, n_inee, .inl v_inee)), (ad 49, .inl (ki 1, 1, .inr (.inl vo)))] : va_W)[i]?) = ([(ad 0, .inr (0, [.ref (ad 2), .ref (ad 5), .ref (ad 13), .ref (ad 25), .ref (ad 27), .ref (ad 1), .int v_room_toldCount])), (ad 5, .inr (2, [.ref (ad 6), .ref (ad 7), .ref (ad 8), .ref (ad 9), .ref (ad 10), .ref (ad 11), .ref (ad 12), .int v_items_mustSet, .int v_items_count])), (ad 7, .inl (ki 0, n_inee, .inl v_inee))] : va_W).map some := rfl
  refine q_xcall3 (As := [.int p1, .int p2]) (rest := [.int 0, .ref (ad 49)]) (stk := [.int (bI r), .int 0, .ref (ad 49)]) (w1 := [(ad 0, .inr (0, [.ref (ad 2), .ref (ad 5), .ref (ad 13), .ref (ad 25), .ref (ad 27), .ref (ad 1), .int ov_room_toldCount])), (ad 5, .inr (2, [.ref (ad 6), .ref (ad 7), .ref (ad 8), .ref (ad 9), .ref (ad 10), .ref (ad 11), .ref (ad 12), .int v_items_mustSet, .int v_items_count])), (ad 7, .inl (ki 0, n_inee, .inl ov_inee))]) (ws' := [(ad 0, .inr (0, [.ref (ad 2), .ref (ad 5), .ref (ad 13), .ref (ad 25), .ref (ad 27), .ref (ad 1), .int ov_room_toldCount])), (ad 5, .inr (2, [.ref (ad 6), .ref (ad 7), .ref (ad 8), .ref (ad 9), .ref (ad 10), .ref (ad 11), .ref (ad 12), .int v_items_mustSet, .int v_items_count])), (ad 7, .inl (ki 0, n_inee, .inl ov_inee)), (ad 49, .inl (ki 1, 1, .inr (.inl vo)))]) (wc := [(ad 0, .inr (0, [.ref (ad 2), .ref (ad 5), .ref (ad 13), .ref (ad 25), .ref (ad 27), .ref (ad 1), .int v_room_toldCount])), (ad 5, .inr (2, [.ref (ad 6), .ref (ad 7), .ref (ad 8), .ref (ad 9), .ref (ad 10), .ref (ad 11), .ref (ad 12), .int v_items_mustSet, .int v_items_count])), (ad 7, .inl (ki 0, n_inee, .inl v_inee))]) ⟨hx, hb, hml, hown, hts⟩ (c_RoomFills_need l hl9 D ad ki n_inee v_room_toldCount v_items_mustSet v_items_count v_inee p1 p2 N s.heap.size 2 r ov_room_toldCount ov_inee hf) (cwV 2 hts (q_goodV ⟨m_697, m_698, m_699, m_54⟩ m_700) rfl rfl rfl (by decide +kernel) ⟨Nat.le_of_ble_eq_true rfl, Nat.le_of_ble_eq_true rfl⟩) (q_preVMX3 hE hZ hK hP hD hS hA (by decide +kernel) hC 0 0 rfl rfl) rfl hl.1 rfl (lv_room (Nat.le_of_ble_eq_true rfl)) d_Law_need_5 ⟨Nat.le_of_ble_eq_true rfl, Nat.le_of_ble_eq_true rfl⟩ hP hD hS hA hC [ad 0, ad 5, ad 7, ad 49] rfl rfl (fun H1 h1 hk => (q_c (h1 0 _ rfl) (q_c (h1 1 _ rfl) (q_c (h1 2 _ rfl) (q_c (hk 3 _ rfl (by decide)) q_n))))) rfl ?_ ?_
  · intro h0
    exact absurd h0 (by decide)
  · intro _ q H ce g1 g2 g3 hP hS
    obtain ⟨x0, x1, hsp, hx0, hx1⟩ := q_tab2 htab
    have e1_0 : x0.startPc = 0 := congrArg (fun z => z.1) hx0
    have e2_0 : x0.endPc = 17 := congrArg (fun z => z.2.1) hx0
    have e3_0 : x0.handlerPc = 20 := congrArg (fun z => z.2.2.1) hx0
    have e4_0 : x0.catchType = 28 := congrArg (fun z => z.2.2.2) hx0
    have e1_1 : x1.startPc = 0 := congrArg (fun z => z.1) hx1
    have e2_1 : x1.endPc = 17 := congrArg (fun z => z.2.1) hx1
    have e3_1 : x1.handlerPc = 24 := congrArg (fun z => z.2.2.1) hx1
    have e4_1 : x1.catchType = 13 := congrArg (fun z => z.2.2.2) hx1
    have hpass : ∀ z ∈ ([x0] : List ExceptionTableEntry), z.catchType ≠ 0 ∧ ∃ nm : String, (Cond.classLink R_Law z.catchType nm).before ([.ref (ad 0), .int p1, .int p2, .ref (ad 49)] : List Value).toArray s = true ∧ va_Nc "java/lang/IllegalArgumentException" nm s := by
      intro z hz
      simp only [List.mem_cons, List.not_mem_nil, or_false] at hz
      rcases hz with rfl
      · exact ⟨by rw [e4_0]; decide, "java/lang/IndexOutOfBoundsException", (by rw [e4_0]; exact hts (.classLink R_Law 28 "java/lang/IndexOutOfBoundsException") (List.mem_cons_of_mem _ m_696)), hE.2.2 ("java/lang/IllegalArgumentException", "java/lang/IndexOutOfBoundsException") (by decide)⟩
    have hcw : Cond.castable "java/lang/IllegalArgumentException" "java/lang/IllegalArgumentException" ∈ q_NW := by decide
    refine q_catch (E := "java/lang/IllegalArgumentException") (name := "java/lang/IllegalArgumentException") hown [x0] x1 [] hsp hpass (by simp [covers, e1_1, e2_1]) (by rw [e4_1]; decide) (by rw [e4_1]; exact hts (.classLink R_Law 13 "java/lang/IllegalArgumentException") (List.mem_cons_of_mem _ m_565)) (va_Nw.use (q_NW_ok _ hcw) (hE.1 _ hcw)) g1 g2 g3 ?_
    rw [e3_1]
    refine lv_astore (lv' := ((4, .ref q) :: [(0, .ref (ad 0)), (1, .int p1), (2, .int p2), (3, .ref (ad 49))])) hx hb d_Law_need_24 hl (by decide) rfl (fun ls hl => ?_)
    refine lv_iconst (v := 2) hx hb d_Law_need_26 (by decide) ?_
    exact W.widen (Nat.le_of_ble_eq_true rfl) (Nat.le_of_ble_eq_true rfl) (W.iret (v := 2) hx hb hr (fun t ht hW => ⟨rfl, by rw [ht]; exact hP, hS.F ht⟩) hS.2.2 d_Law_need_27)
set_option maxRecDepth 100000 in
set_option maxHeartbeats 4000000 in
theorem x_Law_near_0 (l : Launch) (hl9 : l.stackTraces = false) (D : va_G) (ad : Nat → Nat) (ki : Nat → ClassId) (n_inea : Nat) (v_room_toldCount : Int32) (v_items_mustSet : Int32) (v_items_count : Int32) (v_inea : Nat → Int64) (p1 : Int32) (p2 : Int32) (p3 : Int64) (N : Nat) (sz : Nat) (vo : Nat → Int64) (r : Bool) (ov_room_toldCount : Int32) (ov_inea : Nat → Int64) (hf : f_RoomFills_near N n_inea v_room_toldCount v_items_mustSet v_items_count v_inea p1 p2 p3 = some (0, r, ov_room_toldCount, ov_inea)) : Met l y_Law_near w_Law_near { frames := 9, cells := 4, slots := 24, locals := 240 } (q_PcMX [.ref (ad 0), .int p1, .int p2, .long p3, .ref (ad 49)] D vwCl [(ad 0, .inr (0, [.ref (ad 2), .ref (ad 5), .ref (ad 13), .ref (ad 25), .ref (ad 27), .ref (ad 1), .int v_room_toldCount])), (ad 5, .inr (2, [.ref (ad 6), .ref (ad 7), .ref (ad 8), .ref (ad 9), .ref (ad 10), .ref (ad 11), .ref (ad 12), .int v_items_mustSet, .int v_items_count])), (ad 9, .inl (ki 1, n_inea, .inr (.inl v_inea))), (ad 49, .inl (ki 1, 1, .inr (.inl vo)))] (TYS ki) sz) (q_Qm (some (.int 0)) D vwCl [(ad 0, .inr (0, [.ref (ad 2), .ref (ad 5), .ref (ad 13), .ref (ad 25), .ref (ad 27), .ref (ad 1), .int ov_room_toldCount])), (ad 5, .inr (2, [.ref (ad 6), .ref (ad 7), .ref (ad 8), .ref (ad 9), .ref (ad 10), .ref (ad 11), .ref (ad 12), .int v_items_mustSet, .int v_items_count])), (ad 9, .inl (ki 1, n_inea, .inr (.inl ov_inea))), (ad 49, .inl (ki 1, 1, .inr (.inl (vp_updL vo (Int32.toNatClampNeg 0) (bJ r)))))] (va_A [(ad 0, .inr (0, [.ref (ad 2), .ref (ad 5), .ref (ad 13), .ref (ad 25), .ref (ad 27), .ref (ad 1), .int v_room_toldCount])), (ad 5, .inr (2, [.ref (ad 6), .ref (ad 7), .ref (ad 8), .ref (ad 9), .ref (ad 10), .ref (ad 11), .ref (ad 12), .int v_items_mustSet, .int v_items_count])), (ad 9, .inl (ki 1, n_inea, .inr (.inl v_inea))), (ad 49, .inl (ki 1, 1, .inr (.inl vo)))] sz)) 4 24 (va_A [(ad 0, .inr (0, [.ref (ad 2), .ref (ad 5), .ref (ad 13), .ref (ad 25), .ref (ad 27), .ref (ad 1), .int v_room_toldCount])), (ad 5, .inr (2, [.ref (ad 6), .ref (ad 7), .ref (ad 8), .ref (ad 9), .ref (ad 10), .ref (ad 11), .ref (ad 12), .int v_items_mustSet, .int v_items_count])), (ad 9, .inl (ki 1, n_inea, .inr (.inl v_inea))), (ad 49, .inl (ki 1, 1, .inr (.inl vo)))] sz) := by
  refine q_ofWW (cc := b_Law_near) (maxL := 7) (ret := some .int) (by decide) rfl ?_
  intro p e s m args below meth c s₁ B hml htab hv
  obtain ⟨rfl, hsz, hP, hK, hD0, hE, hZ⟩ := hv
  have hx := B.exec
  have hb := B.bytes
  have hr := B.returns
  have hts := atoms_spec (ws := w_Law_near) B.pre
  have hown : s.vm.findClass R_Law = some m.cls := findClass_of_methodNamed B.named
  subst hsz
  have hD := hD0.self (sz := s.heap.size)
  generalize hAe : va_A [(ad 0, .inr (0, [.ref (ad 2), .ref (ad 5), .ref (ad 13), .ref (ad 25), .ref (ad 27), .ref (ad 1), .int v_room_toldCount])), (ad 5, .inr (2, [.ref (ad 6), .ref (ad 7), .ref (ad 8), .ref (ad 9), .ref (ad 10), .ref (ad 11), .ref (ad 12), .int v_items_mustSet, .int v_items_count])), (ad 9, .inl (ki 1, n_inea, .inr (.inl v_inea))), (ad 49, .inl (ki 1, 1, .inr (.inl vo)))] s.heap.size = A at hD hZ ⊢
  have hA : ∀ q : Nat, s.heap.size ≤ q → A q := fun q h => by rw [← hAe]; exact Or.inr h
  have hS : va_S A s.heap s.heap [] := va_S.rf
  replace hP : va_P D vwCl [(ad 0, .inr (0, [.ref (ad 2), .ref (ad 5), .ref (ad 13), .ref (ad 25), .ref (ad 27), .ref (ad 1), .int v_room_toldCount])), (ad 5, .inr (2, [.ref (ad 6), .ref (ad 7), .ref (ad 8), .ref (ad 9), .ref (ad 10), .ref (ad 11), .ref (ad 12), .int v_items_mustSet, .int v_items_count])), (ad 9, .inl (ki 1, n_inea, .inr (.inl v_inea))), (ad 49, .inl (ki 1, 1, .inr (.inl vo)))] s.heap := hP
  have hl := lv_entry ([.ref (ad 0), .int p1, .int p2, .long p3, .ref (ad 49)]) (n := 7) (Nat.le_of_ble_eq_true rfl)
  rw [lg_entry_eq]
  generalize (lg_sl ([.ref (ad 0), .int p1, .int p2, .long p3, .ref (ad 49)]) ++ List.replicate (7 - (lg_sl ([.ref (ad 0), .int p1, .int p2, .long p3, .ref (ad 49)])).length) Slot.unset).toArray = ls at hl ⊢
  replace hl : lv_has ls 7 [(0, .ref (ad 0)), (1, .int p1), (2, .int p2), (3, .long p3), (5, .ref (ad 49))] := hl
  refine lv_aload hx hb d_Law_near_0 (lv_at hl 4 rfl) ?_
  refine lv_iconst (v := 0) hx hb d_Law_near_2 (by decide) ?_
  refine lv_aload_n hx hb d_Law_near_3 rfl (lv_at hl 0 rfl) ?_
  refine lv_iload_n hx hb d_Law_near_4 rfl (lv_at hl 1 rfl) ?_
  refine lv_iload_n hx hb d_Law_near_5 rfl (lv_at hl 2 rfl) ?_
  refine lv_lload_n hx hb d_Law_near_6 rfl (lv_at hl 3 rfl) ?_
  have hC : ([0, 1, 2] : List Nat).map (fun i => ([(ad 0, .inr (0, [.ref (ad 2), .ref (ad 5), .ref (ad 13), .ref (ad 25), .ref (ad 27), .ref (ad 1), .int v_room_toldCount])), (ad 5, .inr (2, [.ref (ad 6), .ref (ad 7), .ref (ad 8), .ref (ad 9), .ref (ad 10), .ref (ad 11), .ref (ad 12), .int v_items_mustSet, .int v_items_count])), (ad 9, .inl (ki 1, n_inea, .inr (.inl v_inea))), (ad 49, .inl (ki 1, 1, .inr (.inl vo)))] : va_W)[i]?) = ([(ad 0, .inr (0, [.ref (ad 2), .ref (ad 5), .ref (ad 13), .ref (ad 25), .ref (ad 27), .ref (ad 1), .int v_room_toldCount])), (ad 5, .inr (2, [.ref (ad 6), .ref (ad 7), .ref (ad 8), .ref (ad 9), .ref (ad 10), .ref (ad 11), .ref (ad 12), .int v_items_mustSet, .int v_items_count])), (ad 9, .inl (ki 1, n_inea, .inr (.inl v_inea)))] : va_W).map some := rfl
  refine q_xcall3 (As := [.int p1, .int p2, .long p3]) (rest := [.int 0, .ref (ad 49)]) (stk := [.int (bI r), .int 0, .ref (ad 49)]) (w1 := [(ad 0, .inr (0, [.ref (ad 2), .ref (ad 5), .ref (ad 13), .ref (ad 25), .ref (ad 27), .ref (ad 1), .int ov_room_toldCount])), (ad 5, .inr (2, [.ref (ad 6), .ref (ad 7), .ref (ad 8), .ref (ad 9), .ref (ad 10), .ref (ad 11), .ref (ad 12), .int v_items_mustSet, .int v_items_count])), (ad 9, .inl (ki 1, n_inea, .inr (.inl ov_inea)))]) (ws' := [(ad 0, .inr (0, [.ref (ad 2), .ref (ad 5), .ref (ad 13), .ref (ad 25), .ref (ad 27), .ref (ad 1), .int ov_room_toldCount])), (ad 5, .inr (2, [.ref (ad 6), .ref (ad 7), .ref (ad 8), .ref (ad 9), .ref (ad 10), .ref (ad 11), .ref (ad 12), .int v_items_mustSet, .int v_items_count])), (ad 9, .inl (ki 1, n_inea, .inr (.inl ov_inea))), (ad 49, .inl (ki 1, 1, .inr (.inl vo)))]) (wc := [(ad 0, .inr (0, [.ref (ad 2), .ref (ad 5), .ref (ad 13), .ref (ad 25), .ref (ad 27), .ref (ad 1), .int v_room_toldCount])), (ad 5, .inr (2, [.ref (ad 6), .ref (ad 7), .ref (ad 8), .ref (ad 9), .ref (ad 10), .ref (ad 11), .ref (ad 12), .int v_items_mustSet, .int v_items_count])), (ad 9, .inl (ki 1, n_inea, .inr (.inl v_inea)))]) ⟨hx, hb, hml, hown, hts⟩ (c_RoomFills_near l hl9 D ad ki n_inea v_room_toldCount v_items_mustSet v_items_count v_inea p1 p2 p3 N s.heap.size 0 r ov_room_toldCount ov_inea hf) (cwV 3 hts (q_goodV ⟨m_729, m_730, m_731, m_54⟩ m_732) rfl rfl rfl (by decide +kernel) ⟨Nat.le_of_ble_eq_true rfl, Nat.le_of_ble_eq_true rfl⟩) (q_preVMX3 hE hZ hK hP hD hS hA (by decide +kernel) hC 0 0 rfl rfl) rfl hl.1 rfl (lv_room (Nat.le_of_ble_eq_true rfl)) d_Law_near_7 ⟨Nat.le_of_ble_eq_true rfl, Nat.le_of_ble_eq_true rfl⟩ hP hD hS hA hC [ad 0, ad 5, ad 9, ad 49] rfl rfl (fun H1 h1 hk => (q_c (h1 0 _ rfl) (q_c (h1 1 _ rfl) (q_c (h1 2 _ rfl) (q_c (hk 3 _ rfl (by decide)) q_n))))) rfl ?_ ?_
  · intro _
    intro H locs hP hD hS
    refine zv_eq (tgt := 17) hx hb d_Law_near_10 (by decide) (fun c9 => ?_) (fun c9 => ?_)
    · rw [show bJ r = 0 from if_neg c9]
      refine lv_lconst (v := 0) hx hb d_Law_near_17 (by decide) ?_
      refine va_last (x := 0) hx hb hK hP hD hS 3 1 rfl rfl q_in01 d_Law_near_18 (fun H locs hP hD hS => ?_)
      replace hP : va_P D vwCl [(ad 0, .inr (0, [.ref (ad 2), .ref (ad 5), .ref (ad 13), .ref (ad 25), .ref (ad 27), .ref (ad 1), .int ov_room_toldCount])), (ad 5, .inr (2, [.ref (ad 6), .ref (ad 7), .ref (ad 8), .ref (ad 9), .ref (ad 10), .ref (ad 11), .ref (ad 12), .int v_items_mustSet, .int v_items_count])), (ad 9, .inl (ki 1, n_inea, .inr (.inl ov_inea))), (ad 49, .inl (ki 1, 1, .inr (.inl (vp_updL vo (Int32.toNatClampNeg 0) 0))))] H := hP
      refine lv_goto (tgt := 30) hx hb d_Law_near_19 (by decide) ?_
      refine lv_iconst (v := 0) hx hb d_Law_near_30 (by decide) ?_
      exact W.widen (Nat.le_of_ble_eq_true rfl) (Nat.le_of_ble_eq_true rfl) (W.iret (v := 0) hx hb hr (fun t ht hW => ⟨rfl, by rw [ht]; exact hP, hS.F ht⟩) hS.2.2 d_Law_near_31)
    · rw [show bJ r = 1 from if_pos c9]
      refine lv_lconst (v := 1) hx hb d_Law_near_13 (by decide) ?_
      refine lv_goto (tgt := 18) hx hb d_Law_near_14 (by decide) ?_
      refine va_last (x := 1) hx hb hK hP hD hS 3 1 rfl rfl q_in01 d_Law_near_18 (fun H locs hP hD hS => ?_)
      replace hP : va_P D vwCl [(ad 0, .inr (0, [.ref (ad 2), .ref (ad 5), .ref (ad 13), .ref (ad 25), .ref (ad 27), .ref (ad 1), .int ov_room_toldCount])), (ad 5, .inr (2, [.ref (ad 6), .ref (ad 7), .ref (ad 8), .ref (ad 9), .ref (ad 10), .ref (ad 11), .ref (ad 12), .int v_items_mustSet, .int v_items_count])), (ad 9, .inl (ki 1, n_inea, .inr (.inl ov_inea))), (ad 49, .inl (ki 1, 1, .inr (.inl (vp_updL vo (Int32.toNatClampNeg 0) 1))))] H := hP
      refine lv_goto (tgt := 30) hx hb d_Law_near_19 (by decide) ?_
      refine lv_iconst (v := 0) hx hb d_Law_near_30 (by decide) ?_
      exact W.widen (Nat.le_of_ble_eq_true rfl) (Nat.le_of_ble_eq_true rfl) (W.iret (v := 0) hx hb hr (fun t ht hW => ⟨rfl, by rw [ht]; exact hP, hS.F ht⟩) hS.2.2 d_Law_near_31)
  · intro h0
    exact absurd rfl h0
set_option maxRecDepth 100000 in
set_option maxHeartbeats 4000000 in
theorem x_Law_near_3 (l : Launch) (hl9 : l.stackTraces = false) (D : va_G) (ad : Nat → Nat) (ki : Nat → ClassId) (n_inea : Nat) (v_room_toldCount : Int32) (v_items_mustSet : Int32) (v_items_count : Int32) (v_inea : Nat → Int64) (p1 : Int32) (p2 : Int32) (p3 : Int64) (N : Nat) (sz : Nat) (vo : Nat → Int64) (r : Bool) (ov_room_toldCount : Int32) (ov_inea : Nat → Int64) (hf : f_RoomFills_near N n_inea v_room_toldCount v_items_mustSet v_items_count v_inea p1 p2 p3 = some (3, r, ov_room_toldCount, ov_inea)) : Met l y_Law_near w_Law_near { frames := 9, cells := 4, slots := 24, locals := 240 } (q_PcMX [.ref (ad 0), .int p1, .int p2, .long p3, .ref (ad 49)] D vwCl [(ad 0, .inr (0, [.ref (ad 2), .ref (ad 5), .ref (ad 13), .ref (ad 25), .ref (ad 27), .ref (ad 1), .int v_room_toldCount])), (ad 5, .inr (2, [.ref (ad 6), .ref (ad 7), .ref (ad 8), .ref (ad 9), .ref (ad 10), .ref (ad 11), .ref (ad 12), .int v_items_mustSet, .int v_items_count])), (ad 9, .inl (ki 1, n_inea, .inr (.inl v_inea))), (ad 49, .inl (ki 1, 1, .inr (.inl vo)))] (TYS ki) sz) (q_Qm (some (.int 1)) D vwCl [(ad 0, .inr (0, [.ref (ad 2), .ref (ad 5), .ref (ad 13), .ref (ad 25), .ref (ad 27), .ref (ad 1), .int v_room_toldCount])), (ad 5, .inr (2, [.ref (ad 6), .ref (ad 7), .ref (ad 8), .ref (ad 9), .ref (ad 10), .ref (ad 11), .ref (ad 12), .int v_items_mustSet, .int v_items_count])), (ad 9, .inl (ki 1, n_inea, .inr (.inl v_inea))), (ad 49, .inl (ki 1, 1, .inr (.inl vo)))] (va_A [(ad 0, .inr (0, [.ref (ad 2), .ref (ad 5), .ref (ad 13), .ref (ad 25), .ref (ad 27), .ref (ad 1), .int v_room_toldCount])), (ad 5, .inr (2, [.ref (ad 6), .ref (ad 7), .ref (ad 8), .ref (ad 9), .ref (ad 10), .ref (ad 11), .ref (ad 12), .int v_items_mustSet, .int v_items_count])), (ad 9, .inl (ki 1, n_inea, .inr (.inl v_inea))), (ad 49, .inl (ki 1, 1, .inr (.inl vo)))] sz)) 4 24 (va_A [(ad 0, .inr (0, [.ref (ad 2), .ref (ad 5), .ref (ad 13), .ref (ad 25), .ref (ad 27), .ref (ad 1), .int v_room_toldCount])), (ad 5, .inr (2, [.ref (ad 6), .ref (ad 7), .ref (ad 8), .ref (ad 9), .ref (ad 10), .ref (ad 11), .ref (ad 12), .int v_items_mustSet, .int v_items_count])), (ad 9, .inl (ki 1, n_inea, .inr (.inl v_inea))), (ad 49, .inl (ki 1, 1, .inr (.inl vo)))] sz) := by
  refine q_ofWW (cc := b_Law_near) (maxL := 7) (ret := some .int) (by decide) rfl ?_
  intro p e s m args below meth c s₁ B hml htab hv
  obtain ⟨rfl, hsz, hP, hK, hD0, hE, hZ⟩ := hv
  have hx := B.exec
  have hb := B.bytes
  have hr := B.returns
  have hts := atoms_spec (ws := w_Law_near) B.pre
  have hown : s.vm.findClass R_Law = some m.cls := findClass_of_methodNamed B.named
  subst hsz
  have hD := hD0.self (sz := s.heap.size)
  generalize hAe : va_A [(ad 0, .inr (0, [.ref (ad 2), .ref (ad 5), .ref (ad 13), .ref (ad 25), .ref (ad 27), .ref (ad 1), .int v_room_toldCount])), (ad 5, .inr (2, [.ref (ad 6), .ref (ad 7), .ref (ad 8), .ref (ad 9), .ref (ad 10), .ref (ad 11), .ref (ad 12), .int v_items_mustSet, .int v_items_count])), (ad 9, .inl (ki 1, n_inea, .inr (.inl v_inea))), (ad 49, .inl (ki 1, 1, .inr (.inl vo)))] s.heap.size = A at hD hZ ⊢
  have hA : ∀ q : Nat, s.heap.size ≤ q → A q := fun q h => by rw [← hAe]; exact Or.inr h
  have hS : va_S A s.heap s.heap [] := va_S.rf
  replace hP : va_P D vwCl [(ad 0, .inr (0, [.ref (ad 2), .ref (ad 5), .ref (ad 13), .ref (ad 25), .ref (ad 27), .ref (ad 1), .int v_room_toldCount])), (ad 5, .inr (2, [.ref (ad 6), .ref (ad 7), .ref (ad 8), .ref (ad 9), .ref (ad 10), .ref (ad 11), .ref (ad 12), .int v_items_mustSet, .int v_items_count])), (ad 9, .inl (ki 1, n_inea, .inr (.inl v_inea))), (ad 49, .inl (ki 1, 1, .inr (.inl vo)))] s.heap := hP
  have hl := lv_entry ([.ref (ad 0), .int p1, .int p2, .long p3, .ref (ad 49)]) (n := 7) (Nat.le_of_ble_eq_true rfl)
  rw [lg_entry_eq]
  generalize (lg_sl ([.ref (ad 0), .int p1, .int p2, .long p3, .ref (ad 49)]) ++ List.replicate (7 - (lg_sl ([.ref (ad 0), .int p1, .int p2, .long p3, .ref (ad 49)])).length) Slot.unset).toArray = ls at hl ⊢
  replace hl : lv_has ls 7 [(0, .ref (ad 0)), (1, .int p1), (2, .int p2), (3, .long p3), (5, .ref (ad 49))] := hl
  refine lv_aload hx hb d_Law_near_0 (lv_at hl 4 rfl) ?_
  refine lv_iconst (v := 0) hx hb d_Law_near_2 (by decide) ?_
  refine lv_aload_n hx hb d_Law_near_3 rfl (lv_at hl 0 rfl) ?_
  refine lv_iload_n hx hb d_Law_near_4 rfl (lv_at hl 1 rfl) ?_
  refine lv_iload_n hx hb d_Law_near_5 rfl (lv_at hl 2 rfl) ?_
  refine lv_lload_n hx hb d_Law_near_6 rfl (lv_at hl 3 rfl) ?_
  have hC : ([0, 1, 2] : List Nat).map (fun i => ([(ad 0, .inr (0, [.ref (ad 2), .ref (ad 5), .ref (ad 13), .ref (ad 25), .ref (ad 27), .ref (ad 1), .int v_room_toldCount])), (ad 5, .inr (2, [.ref (ad 6), .ref (ad 7), .ref (ad 8), .ref (ad 9), .ref (ad 10), .ref (ad 11), .ref (ad 12), .int v_items_mustSet, .int v_items_count])), (ad 9, .inl (ki 1, n_inea, .inr (.inl v_inea))), (ad 49, .inl (ki 1, 1, .inr (.inl vo)))] : va_W)[i]?) = ([(ad 0, .inr (0, [.ref (ad 2), .ref (ad 5), .ref (ad 13), .ref (ad 25), .ref (ad 27), .ref (ad 1), .int v_room_toldCount])), (ad 5, .inr (2, [.ref (ad 6), .ref (ad 7), .ref (ad 8), .ref (ad 9), .ref (ad 10), .ref (ad 11), .ref (ad 12), .int v_items_mustSet, .int v_items_count])), (ad 9, .inl (ki 1, n_inea, .inr (.inl v_inea)))] : va_W).map some := rfl
  refine q_xcall3 (As := [.int p1, .int p2, .long p3]) (rest := [.int 0, .ref (ad 49)]) (stk := [.int (bI r), .int 0, .ref (ad 49)]) (w1 := [(ad 0, .inr (0, [.ref (ad 2), .ref (ad 5), .ref (ad 13), .ref (ad 25), .ref (ad 27), .ref (ad 1), .int ov_room_toldCount])), (ad 5, .inr (2, [.ref (ad 6), .ref (ad 7), .ref (ad 8), .ref (ad 9), .ref (ad 10), .ref (ad 11), .ref (ad 12), .int v_items_mustSet, .int v_items_count])), (ad 9, .inl (ki 1, n_inea, .inr (.inl ov_inea)))]) (ws' := [(ad 0, .inr (0, [.ref (ad 2), .ref (ad 5), .ref (ad 13), .ref (ad 25), .ref (ad 27), .ref (ad 1), .int ov_room_toldCount])), (ad 5, .inr (2, [.ref (ad 6), .ref (ad 7), .ref (ad 8), .ref (ad 9), .ref (ad 10), .ref (ad 11), .ref (ad 12), .int v_items_mustSet, .int v_items_count])), (ad 9, .inl (ki 1, n_inea, .inr (.inl ov_inea))), (ad 49, .inl (ki 1, 1, .inr (.inl vo)))]) (wc := [(ad 0, .inr (0, [.ref (ad 2), .ref (ad 5), .ref (ad 13), .ref (ad 25), .ref (ad 27), .ref (ad 1), .int v_room_toldCount])), (ad 5, .inr (2, [.ref (ad 6), .ref (ad 7), .ref (ad 8), .ref (ad 9), .ref (ad 10), .ref (ad 11), .ref (ad 12), .int v_items_mustSet, .int v_items_count])), (ad 9, .inl (ki 1, n_inea, .inr (.inl v_inea)))]) ⟨hx, hb, hml, hown, hts⟩ (c_RoomFills_near l hl9 D ad ki n_inea v_room_toldCount v_items_mustSet v_items_count v_inea p1 p2 p3 N s.heap.size 3 r ov_room_toldCount ov_inea hf) (cwV 3 hts (q_goodV ⟨m_729, m_730, m_731, m_54⟩ m_732) rfl rfl rfl (by decide +kernel) ⟨Nat.le_of_ble_eq_true rfl, Nat.le_of_ble_eq_true rfl⟩) (q_preVMX3 hE hZ hK hP hD hS hA (by decide +kernel) hC 0 0 rfl rfl) rfl hl.1 rfl (lv_room (Nat.le_of_ble_eq_true rfl)) d_Law_near_7 ⟨Nat.le_of_ble_eq_true rfl, Nat.le_of_ble_eq_true rfl⟩ hP hD hS hA hC [ad 0, ad 5, ad 9, ad 49] rfl rfl (fun H1 h1 hk => (q_c (h1 0 _ rfl) (q_c (h1 1 _ rfl) (q_c (h1 2 _ rfl) (q_c (hk 3 _ rfl (by decide)) q_n))))) rfl ?_ ?_
  · intro h0
    exact absurd h0 (by decide)
  · intro _ q H ce g1 g2 g3 hP hS
    obtain ⟨x0, x1, hsp, hx0, hx1⟩ := q_tab2 htab
    have e1_0 : x0.startPc = 0 := congrArg (fun z => z.1) hx0
    have e2_0 : x0.endPc = 19 := congrArg (fun z => z.2.1) hx0
    have e3_0 : x0.handlerPc = 22 := congrArg (fun z => z.2.2.1) hx0
    have e4_0 : x0.catchType = 28 := congrArg (fun z => z.2.2.2) hx0
    have hpass : ∀ z ∈ ([] : List ExceptionTableEntry), z.catchType ≠ 0 ∧ ∃ nm : String, (Cond.classLink R_Law z.catchType nm).before ([.ref (ad 0), .int p1, .int p2, .long p3, .ref (ad 49)] : List Value).toArray s = true ∧ va_Nc "java/lang/IndexOutOfBoundsException" nm s := by
      intro z hz
      cases hz
    have hcw : Cond.castable "java/lang/IndexOutOfBoundsException" "java/lang/IndexOutOfBoundsException" ∈ q_NW := by decide
    refine q_catch (E := "java/lang/IndexOutOfBoundsException") (name := "java/lang/IndexOutOfBoundsException") hown [] x0 [x1] hsp hpass (by simp [covers, e1_0, e2_0]) (by rw [e4_0]; decide) (by rw [e4_0]; exact hts (.classLink R_Law 28 "java/lang/IndexOutOfBoundsException") (List.mem_cons_of_mem _ m_696)) (va_Nw.use (q_NW_ok _ hcw) (hE.1 _ hcw)) g1 g2 g3 ?_
    rw [e3_0]
    refine lv_astore (lv' := ((6, .ref q) :: [(0, .ref (ad 0)), (1, .int p1), (2, .int p2), (3, .long p3), (5, .ref (ad 49))])) hx hb d_Law_near_22 hl (by decide) rfl (fun ls hl => ?_)
    refine lv_iconst (v := 1) hx hb d_Law_near_24 (by decide) ?_
    exact W.widen (Nat.le_of_ble_eq_true rfl) (Nat.le_of_ble_eq_true rfl) (W.iret (v := 1) hx hb hr (fun t ht hW => ⟨rfl, by rw [ht]; exact hP, hS.F ht⟩) hS.2.2 d_Law_near_25)
set_option maxRecDepth 100000 in
set_option maxHeartbeats 4000000 in
theorem x_Law_near_2 (l : Launch) (hl9 : l.stackTraces = false) (D : va_G) (ad : Nat → Nat) (ki : Nat → ClassId) (n_inea : Nat) (v_room_toldCount : Int32) (v_items_mustSet : Int32) (v_items_count : Int32) (v_inea : Nat → Int64) (p1 : Int32) (p2 : Int32) (p3 : Int64) (N : Nat) (sz : Nat) (vo : Nat → Int64) (r : Bool) (ov_room_toldCount : Int32) (ov_inea : Nat → Int64) (hf : f_RoomFills_near N n_inea v_room_toldCount v_items_mustSet v_items_count v_inea p1 p2 p3 = some (2, r, ov_room_toldCount, ov_inea)) : Met l y_Law_near w_Law_near { frames := 9, cells := 4, slots := 24, locals := 240 } (q_PcMX [.ref (ad 0), .int p1, .int p2, .long p3, .ref (ad 49)] D vwCl [(ad 0, .inr (0, [.ref (ad 2), .ref (ad 5), .ref (ad 13), .ref (ad 25), .ref (ad 27), .ref (ad 1), .int v_room_toldCount])), (ad 5, .inr (2, [.ref (ad 6), .ref (ad 7), .ref (ad 8), .ref (ad 9), .ref (ad 10), .ref (ad 11), .ref (ad 12), .int v_items_mustSet, .int v_items_count])), (ad 9, .inl (ki 1, n_inea, .inr (.inl v_inea))), (ad 49, .inl (ki 1, 1, .inr (.inl vo)))] (TYS ki) sz) (q_Qm (some (.int 2)) D vwCl [(ad 0, .inr (0, [.ref (ad 2), .ref (ad 5), .ref (ad 13), .ref (ad 25), .ref (ad 27), .ref (ad 1), .int v_room_toldCount])), (ad 5, .inr (2, [.ref (ad 6), .ref (ad 7), .ref (ad 8), .ref (ad 9), .ref (ad 10), .ref (ad 11), .ref (ad 12), .int v_items_mustSet, .int v_items_count])), (ad 9, .inl (ki 1, n_inea, .inr (.inl v_inea))), (ad 49, .inl (ki 1, 1, .inr (.inl vo)))] (va_A [(ad 0, .inr (0, [.ref (ad 2), .ref (ad 5), .ref (ad 13), .ref (ad 25), .ref (ad 27), .ref (ad 1), .int v_room_toldCount])), (ad 5, .inr (2, [.ref (ad 6), .ref (ad 7), .ref (ad 8), .ref (ad 9), .ref (ad 10), .ref (ad 11), .ref (ad 12), .int v_items_mustSet, .int v_items_count])), (ad 9, .inl (ki 1, n_inea, .inr (.inl v_inea))), (ad 49, .inl (ki 1, 1, .inr (.inl vo)))] sz)) 4 24 (va_A [(ad 0, .inr (0, [.ref (ad 2), .ref (ad 5), .ref (ad 13), .ref (ad 25), .ref (ad 27), .ref (ad 1), .int v_room_toldCount])), (ad 5, .inr (2, [.ref (ad 6), .ref (ad 7), .ref (ad 8), .ref (ad 9), .ref (ad 10), .ref (ad 11), .ref (ad 12), .int v_items_mustSet, .int v_items_count])), (ad 9, .inl (ki 1, n_inea, .inr (.inl v_inea))), (ad 49, .inl (ki 1, 1, .inr (.inl vo)))] sz) := by
  refine q_ofWW (cc := b_Law_near) (maxL := 7) (ret := some .int) (by decide) rfl ?_
  intro p e s m args below meth c s₁ B hml htab hv
  obtain ⟨rfl, hsz, hP, hK, hD0, hE, hZ⟩ := hv
  have hx := B.exec
  have hb := B.bytes
  have hr := B.returns
  have hts := atoms_spec (ws := w_Law_near) B.pre
  have hown : s.vm.findClass R_Law = some m.cls := findClass_of_methodNamed B.named
  subst hsz
  have hD := hD0.self (sz := s.heap.size)
  generalize hAe : va_A [(ad 0, .inr (0, [.ref (ad 2), .ref (ad 5), .ref (ad 13), .ref (ad 25), .ref (ad 27), .ref (ad 1), .int v_room_toldCount])), (ad 5, .inr (2, [.ref (ad 6), .ref (ad 7), .ref (ad 8), .ref (ad 9), .ref (ad 10), .ref (ad 11), .ref (ad 12), .int v_items_mustSet, .int v_items_count])), (ad 9, .inl (ki 1, n_inea, .inr (.inl v_inea))), (ad 49, .inl (ki 1, 1, .inr (.inl vo)))] s.heap.size = A at hD hZ ⊢
  have hA : ∀ q : Nat, s.heap.size ≤ q → A q := fun q h => by rw [← hAe]; exact Or.inr h
  have hS : va_S A s.heap s.heap [] := va_S.rf
  replace hP : va_P D vwCl [(ad 0, .inr (0, [.ref (ad 2), .ref (ad 5), .ref (ad 13), .ref (ad 25), .ref (ad 27), .ref (ad 1), .int v_room_toldCount])), (ad 5, .inr (2, [.ref (ad 6), .ref (ad 7), .ref (ad 8), .ref (ad 9), .ref (ad 10), .ref (ad 11), .ref (ad 12), .int v_items_mustSet, .int v_items_count])), (ad 9, .inl (ki 1, n_inea, .inr (.inl v_inea))), (ad 49, .inl (ki 1, 1, .inr (.inl vo)))] s.heap := hP
  have hl := lv_entry ([.ref (ad 0), .int p1, .int p2, .long p3, .ref (ad 49)]) (n := 7) (Nat.le_of_ble_eq_true rfl)
  rw [lg_entry_eq]
  generalize (lg_sl ([.ref (ad 0), .int p1, .int p2, .long p3, .ref (ad 49)]) ++ List.replicate (7 - (lg_sl ([.ref (ad 0), .int p1, .int p2, .long p3, .ref (ad 49)])).length) Slot.unset).toArray = ls at hl ⊢
  replace hl : lv_has ls 7 [(0, .ref (ad 0)), (1, .int p1), (2, .int p2), (3, .long p3), (5, .ref (ad 49))] := hl
  refine lv_aload hx hb d_Law_near_0 (lv_at hl 4 rfl) ?_
  refine lv_iconst (v := 0) hx hb d_Law_near_2 (by decide) ?_
  refine lv_aload_n hx hb d_Law_near_3 rfl (lv_at hl 0 rfl) ?_
  refine lv_iload_n hx hb d_Law_near_4 rfl (lv_at hl 1 rfl) ?_
  refine lv_iload_n hx hb d_Law_near_5 rfl (lv_at hl 2 rfl) ?_
  refine lv_lload_n hx hb d_Law_near_6 rfl (lv_at hl 3 rfl) ?_
  have hC : ([0, 1, 2] : List Nat).map (fun i => ([(ad 0, .inr (0, [.ref (ad 2), .ref (ad 5), .ref (ad 13), .ref (ad 25), .ref (ad 27), .ref (ad 1), .int v_room_toldCount])), (ad 5, .inr (2, [.ref (ad 6), .ref (ad 7), .ref (ad 8), .ref (ad 9), .ref (ad 10), .ref (ad 11), .ref (ad 12), .int v_items_mustSet, .int v_items_count])), (ad 9, .inl (ki 1, n_inea, .inr (.inl v_inea))), (ad 49, .inl (ki 1, 1, .inr (.inl vo)))] : va_W)[i]?) = ([(ad 0, .inr (0, [.ref (ad 2), .ref (ad 5), .ref (ad 13), .ref (ad 25), .ref (ad 27), .ref (ad 1), .int v_room_toldCount])), (ad 5, .inr (2, [.ref (ad 6), .ref (ad 7), .ref (ad 8), .ref (ad 9), .ref (ad 10), .ref (ad 11), .ref (ad 12), .int v_items_mustSet, .int v_items_count])), (ad 9, .inl (ki 1, n_inea, .inr (.inl v_inea)))] : va_W).map some := rfl
  refine q_xcall3 (As := [.int p1, .int p2, .long p3]) (rest := [.int 0, .ref (ad 49)]) (stk := [.int (bI r), .int 0, .ref (ad 49)]) (w1 := [(ad 0, .inr (0, [.ref (ad 2), .ref (ad 5), .ref (ad 13), .ref (ad 25), .ref (ad 27), .ref (ad 1), .int ov_room_toldCount])), (ad 5, .inr (2, [.ref (ad 6), .ref (ad 7), .ref (ad 8), .ref (ad 9), .ref (ad 10), .ref (ad 11), .ref (ad 12), .int v_items_mustSet, .int v_items_count])), (ad 9, .inl (ki 1, n_inea, .inr (.inl ov_inea)))]) (ws' := [(ad 0, .inr (0, [.ref (ad 2), .ref (ad 5), .ref (ad 13), .ref (ad 25), .ref (ad 27), .ref (ad 1), .int ov_room_toldCount])), (ad 5, .inr (2, [.ref (ad 6), .ref (ad 7), .ref (ad 8), .ref (ad 9), .ref (ad 10), .ref (ad 11), .ref (ad 12), .int v_items_mustSet, .int v_items_count])), (ad 9, .inl (ki 1, n_inea, .inr (.inl ov_inea))), (ad 49, .inl (ki 1, 1, .inr (.inl vo)))]) (wc := [(ad 0, .inr (0, [.ref (ad 2), .ref (ad 5), .ref (ad 13), .ref (ad 25), .ref (ad 27), .ref (ad 1), .int v_room_toldCount])), (ad 5, .inr (2, [.ref (ad 6), .ref (ad 7), .ref (ad 8), .ref (ad 9), .ref (ad 10), .ref (ad 11), .ref (ad 12), .int v_items_mustSet, .int v_items_count])), (ad 9, .inl (ki 1, n_inea, .inr (.inl v_inea)))]) ⟨hx, hb, hml, hown, hts⟩ (c_RoomFills_near l hl9 D ad ki n_inea v_room_toldCount v_items_mustSet v_items_count v_inea p1 p2 p3 N s.heap.size 2 r ov_room_toldCount ov_inea hf) (cwV 3 hts (q_goodV ⟨m_729, m_730, m_731, m_54⟩ m_732) rfl rfl rfl (by decide +kernel) ⟨Nat.le_of_ble_eq_true rfl, Nat.le_of_ble_eq_true rfl⟩) (q_preVMX3 hE hZ hK hP hD hS hA (by decide +kernel) hC 0 0 rfl rfl) rfl hl.1 rfl (lv_room (Nat.le_of_ble_eq_true rfl)) d_Law_near_7 ⟨Nat.le_of_ble_eq_true rfl, Nat.le_of_ble_eq_true rfl⟩ hP hD hS hA hC [ad 0, ad 5, ad 9, ad 49] rfl rfl (fun H1 h1 hk => (q_c (h1 0 _ rfl) (q_c (h1 1 _ rfl) (q_c (h1 2 _ rfl) (q_c (hk 3 _ rfl (by decide)) q_n))))) rfl ?_ ?_
  · intro h0
    exact absurd h0 (by decide)
  · intro _ q H ce g1 g2 g3 hP hS
    obtain ⟨x0, x1, hsp, hx0, hx1⟩ := q_tab2 htab
    have e1_0 : x0.startPc = 0 := congrArg (fun z => z.1) hx0
    have e2_0 : x0.endPc = 19 := congrArg (fun z => z.2.1) hx0
    have e3_0 : x0.handlerPc = 22 := congrArg (fun z => z.2.2.1) hx0
    have e4_0 : x0.catchType = 28 := congrArg (fun z => z.2.2.2) hx0
    have e1_1 : x1.startPc = 0 := congrArg (fun z => z.1) hx1
    have e2_1 : x1.endPc = 19 := congrArg (fun z => z.2.1) hx1
    have e3_1 : x1.handlerPc = 26 := congrArg (fun z => z.2.2.1) hx1
    have e4_1 : x1.catchType = 13 := congrArg (fun z => z.2.2.2) hx1
    have hpass : ∀ z ∈ ([x0] : List ExceptionTableEntry), z.catchType ≠ 0 ∧ ∃ nm : String, (Cond.classLink R_Law z.catchType nm).before ([.ref (ad 0), .int p1, .int p2, .long p3, .ref (ad 49)] : List Value).toArray s = true ∧ va_Nc "java/lang/IllegalArgumentException" nm s := by
      intro z hz
      simp only [List.mem_cons, List.not_mem_nil, or_false] at hz
      rcases hz with rfl
      · exact ⟨by rw [e4_0]; decide, "java/lang/IndexOutOfBoundsException", (by rw [e4_0]; exact hts (.classLink R_Law 28 "java/lang/IndexOutOfBoundsException") (List.mem_cons_of_mem _ m_696)), hE.2.2 ("java/lang/IllegalArgumentException", "java/lang/IndexOutOfBoundsException") (by decide)⟩
    have hcw : Cond.castable "java/lang/IllegalArgumentException" "java/lang/IllegalArgumentException" ∈ q_NW := by decide
    refine q_catch (E := "java/lang/IllegalArgumentException") (name := "java/lang/IllegalArgumentException") hown [x0] x1 [] hsp hpass (by simp [covers, e1_1, e2_1]) (by rw [e4_1]; decide) (by rw [e4_1]; exact hts (.classLink R_Law 13 "java/lang/IllegalArgumentException") (List.mem_cons_of_mem _ m_565)) (va_Nw.use (q_NW_ok _ hcw) (hE.1 _ hcw)) g1 g2 g3 ?_
    rw [e3_1]
    refine lv_astore (lv' := ((6, .ref q) :: [(0, .ref (ad 0)), (1, .int p1), (2, .int p2), (3, .long p3), (5, .ref (ad 49))])) hx hb d_Law_near_26 hl (by decide) rfl (fun ls hl => ?_)
    refine lv_iconst (v := 2) hx hb d_Law_near_28 (by decide) ?_
    exact W.widen (Nat.le_of_ble_eq_true rfl) (Nat.le_of_ble_eq_true rfl) (W.iret (v := 2) hx hb hr (fun t ht hW => ⟨rfl, by rw [ht]; exact hP, hS.F ht⟩) hS.2.2 d_Law_near_29)
set_option maxRecDepth 100000 in
set_option maxHeartbeats 4000000 in
theorem x_Law_bar_0 (l : Launch) (hl9 : l.stackTraces = false) (D : va_G) (ad : Nat → Nat) (ki : Nat → ClassId) (n_ibar : Nat) (v_room_toldCount : Int32) (v_items_mustSet : Int32) (v_items_count : Int32) (v_ibar : Nat → Int32) (p1 : Int32) (p2 : Int32) (N : Nat) (sz : Nat) (vo : Nat → Int64) (r : Bool) (ov_room_toldCount : Int32) (ov_ibar : Nat → Int32) (hf : f_RoomFills_bar N n_ibar v_room_toldCount v_items_mustSet v_items_count v_ibar p1 p2 = some (0, r, ov_room_toldCount, ov_ibar)) : Met l y_Law_bar w_Law_bar { frames := 9, cells := 4, slots := 24, locals := 240 } (q_PcMX [.ref (ad 0), .int p1, .int p2, .ref (ad 49)] D vwCl [(ad 0, .inr (0, [.ref (ad 2), .ref (ad 5), .ref (ad 13), .ref (ad 25), .ref (ad 27), .ref (ad 1), .int v_room_toldCount])), (ad 5, .inr (2, [.ref (ad 6), .ref (ad 7), .ref (ad 8), .ref (ad 9), .ref (ad 10), .ref (ad 11), .ref (ad 12), .int v_items_mustSet, .int v_items_count])), (ad 8, .inl (ki 0, n_ibar, .inl v_ibar)), (ad 49, .inl (ki 1, 1, .inr (.inl vo)))] (TYS ki) sz) (q_Qm (some (.int 0)) D vwCl [(ad 0, .inr (0, [.ref (ad 2), .ref (ad 5), .ref (ad 13), .ref (ad 25), .ref (ad 27), .ref (ad 1), .int ov_room_toldCount])), (ad 5, .inr (2, [.ref (ad 6), .ref (ad 7), .ref (ad 8), .ref (ad 9), .ref (ad 10), .ref (ad 11), .ref (ad 12), .int v_items_mustSet, .int v_items_count])), (ad 8, .inl (ki 0, n_ibar, .inl ov_ibar)), (ad 49, .inl (ki 1, 1, .inr (.inl (vp_updL vo (Int32.toNatClampNeg 0) (bJ r)))))] (va_A [(ad 0, .inr (0, [.ref (ad 2), .ref (ad 5), .ref (ad 13), .ref (ad 25), .ref (ad 27), .ref (ad 1), .int v_room_toldCount])), (ad 5, .inr (2, [.ref (ad 6), .ref (ad 7), .ref (ad 8), .ref (ad 9), .ref (ad 10), .ref (ad 11), .ref (ad 12), .int v_items_mustSet, .int v_items_count])), (ad 8, .inl (ki 0, n_ibar, .inl v_ibar)), (ad 49, .inl (ki 1, 1, .inr (.inl vo)))] sz)) 4 24 (va_A [(ad 0, .inr (0, [.ref (ad 2), .ref (ad 5), .ref (ad 13), .ref (ad 25), .ref (ad 27), .ref (ad 1), .int v_room_toldCount])), (ad 5, .inr (2, [.ref (ad 6), .ref (ad 7), .ref (ad 8), .ref (ad 9), .ref (ad 10), .ref (ad 11), .ref (ad 12), .int v_items_mustSet, .int v_items_count])), (ad 8, .inl (ki 0, n_ibar, .inl v_ibar)), (ad 49, .inl (ki 1, 1, .inr (.inl vo)))] sz) := by
  refine q_ofWW (cc := b_Law_bar) (maxL := 5) (ret := some .int) (by decide) rfl ?_
  intro p e s m args below meth c s₁ B hml htab hv
  obtain ⟨rfl, hsz, hP, hK, hD0, hE, hZ⟩ := hv
  have hx := B.exec
  have hb := B.bytes
  have hr := B.returns
  have hts := atoms_spec (ws := w_Law_bar) B.pre
  have hown : s.vm.findClass R_Law = some m.cls := findClass_of_methodNamed B.named
  subst hsz
  have hD := hD0.self (sz := s.heap.size)
  generalize hAe : va_A [(ad 0, .inr (0, [.ref (ad 2), .ref (ad 5), .ref (ad 13), .ref (ad 25), .ref (ad 27), .ref (ad 1), .int v_room_toldCount])), (ad 5, .inr (2, [.ref (ad 6), .ref (ad 7), .ref (ad 8), .ref (ad 9), .ref (ad 10), .ref (ad 11), .ref (ad 12), .int v_items_mustSet, .int v_items_count])), (ad 8, .inl (ki 0, n_ibar, .inl v_ibar)), (ad 49, .inl (ki 1, 1, .inr (.inl vo)))] s.heap.size = A at hD hZ ⊢
  have hA : ∀ q : Nat, s.heap.size ≤ q → A q := fun q h => by rw [← hAe]; exact Or.inr h
  have hS : va_S A s.heap s.heap [] := va_S.rf
  replace hP : va_P D vwCl [(ad 0, .inr (0, [.ref (ad 2), .ref (ad 5), .ref (ad 13), .ref (ad 25), .ref (ad 27), .ref (ad 1), .int v_room_toldCount])), (ad 5, .inr (2, [.ref (ad 6), .ref (ad 7), .ref (ad 8), .ref (ad 9), .ref (ad 10), .ref (ad 11), .ref (ad 12), .int v_items_mustSet, .int v_items_count])), (ad 8, .inl (ki 0, n_ibar, .inl v_ibar)), (ad 49, .inl (ki 1, 1, .inr (.inl vo)))] s.heap := hP
  have hl := lv_entry ([.ref (ad 0), .int p1, .int p2, .ref (ad 49)]) (n := 5) (Nat.le_of_ble_eq_true rfl)
  rw [lg_entry_eq]
  generalize (lg_sl ([.ref (ad 0), .int p1, .int p2, .ref (ad 49)]) ++ List.replicate (5 - (lg_sl ([.ref (ad 0), .int p1, .int p2, .ref (ad 49)])).length) Slot.unset).toArray = ls at hl ⊢
  replace hl : lv_has ls 5 [(0, .ref (ad 0)), (1, .int p1), (2, .int p2), (3, .ref (ad 49))] := hl
  refine lv_aload_n hx hb d_Law_bar_0 rfl (lv_at hl 3 rfl) ?_
  refine lv_iconst (v := 0) hx hb d_Law_bar_1 (by decide) ?_
  refine lv_aload_n hx hb d_Law_bar_2 rfl (lv_at hl 0 rfl) ?_
  refine lv_iload_n hx hb d_Law_bar_3 rfl (lv_at hl 1 rfl) ?_
  refine lv_iload_n hx hb d_Law_bar_4 rfl (lv_at hl 2 rfl) ?_
  have hC : ([0, 1, 2] : List Nat).map (fun i => ([(ad 0, .inr (0, [.ref (ad 2), .ref (ad 5), .ref (ad 13), .ref (ad 25), .ref (ad 27), .ref (ad 1), .int v_room_toldCount])), (ad 5, .inr (2, [.ref (ad 6), .ref (ad 7), .ref (ad 8), .ref (ad 9), .ref (ad 10), .ref (ad 11), .ref (ad 12), .int v_items_mustSet, .int v_items_count])), (ad 8, .inl (ki 0, n_ibar, .inl v_ibar)), (ad 49, .inl (ki 1, 1, .inr (.inl vo)))] : va_W)[i]?) = ([(ad 0, .inr (0, [.ref (ad 2), .ref (ad 5), .ref (ad 13), .ref (ad 25), .ref (ad 27), .ref (ad 1), .int v_room_toldCount])), (ad 5, .inr (2, [.ref (ad 6), .ref (ad 7), .ref (ad 8), .ref (ad 9), .ref (ad 10), .ref (ad 11), .ref (ad 12), .int v_items_mustSet, .int v_items_count])), (ad 8, .inl (ki 0, n_ibar, .inl v_ibar))] : va_W).map some := rfl
  refine q_xcall3 (As := [.int p1, .int p2]) (rest := [.int 0, .ref (ad 49)]) (stk := [.int (bI r), .int 0, .ref (ad 49)]) (w1 := [(ad 0, .inr (0, [.ref (ad 2), .ref (ad 5), .ref (ad 13), .ref (ad 25), .ref (ad 27), .ref (ad 1), .int ov_room_toldCount])), (ad 5, .inr (2, [.ref (ad 6), .ref (ad 7), .ref (ad 8), .ref (ad 9), .ref (ad 10), .ref (ad 11), .ref (ad 12), .int v_items_mustSet, .int v_items_count])), (ad 8, .inl (ki 0, n_ibar, .inl ov_ibar))]) (ws' := [(ad 0, .inr (0, [.ref (ad 2), .ref (ad 5), .ref (ad 13), .ref (ad 25), .ref (ad 27), .ref (ad 1), .int ov_room_toldCount])), (ad 5, .inr (2, [.ref (ad 6), .ref (ad 7), .ref (ad 8), .ref (ad 9), .ref (ad 10), .ref (ad 11), .ref (ad 12), .int v_items_mustSet, .int v_items_count])), (ad 8, .inl (ki 0, n_ibar, .inl ov_ibar)), (ad 49, .inl (ki 1, 1, .inr (.inl vo)))]) (wc := [(ad 0, .inr (0, [.ref (ad 2), .ref (ad 5), .ref (ad 13), .ref (ad 25), .ref (ad 27), .ref (ad 1), .int v_room_toldCount])), (ad 5, .inr (2, [.ref (ad 6), .ref (ad 7), .ref (ad 8), .ref (ad 9), .ref (ad 10), .ref (ad 11), .ref (ad 12), .int v_items_mustSet, .int v_items_count])), (ad 8, .inl (ki 0, n_ibar, .inl v_ibar))]) ⟨hx, hb, hml, hown, hts⟩ (c_RoomFills_bar l hl9 D ad ki n_ibar v_room_toldCount v_items_mustSet v_items_count v_ibar p1 p2 N s.heap.size 0 r ov_room_toldCount ov_ibar hf) (cwV 2 hts (q_goodV ⟨m_747, m_748, m_749, m_54⟩ m_750) rfl rfl rfl (by decide +kernel) ⟨Nat.le_of_ble_eq_true rfl, Nat.le_of_ble_eq_true rfl⟩) (q_preVMX3 hE hZ hK hP hD hS hA (by decide +kernel) hC 0 0 rfl rfl) rfl hl.1 rfl (lv_room (Nat.le_of_ble_eq_true rfl)) d_Law_bar_5 ⟨Nat.le_of_ble_eq_true rfl, Nat.le_of_ble_eq_true rfl⟩ hP hD hS hA hC [ad 0, ad 5, ad 8, ad 49] rfl rfl (fun H1 h1 hk => (q_c (h1 0 _ rfl) (q_c (h1 1 _ rfl) (q_c (h1 2 _ rfl) (q_c (hk 3 _ rfl (by decide)) q_n))))) rfl ?_ ?_
  · intro _
    intro H locs hP hD hS
    refine zv_eq (tgt := 15) hx hb d_Law_bar_8 (by decide) (fun c9 => ?_) (fun c9 => ?_)
    · rw [show bJ r = 0 from if_neg c9]
      refine lv_lconst (v := 0) hx hb d_Law_bar_15 (by decide) ?_
      refine va_last (x := 0) hx hb hK hP hD hS 3 1 rfl rfl q_in01 d_Law_bar_16 (fun H locs hP hD hS => ?_)
      replace hP : va_P D vwCl [(ad 0, .inr (0, [.ref (ad 2), .ref (ad 5), .ref (ad 13), .ref (ad 25), .ref (ad 27), .ref (ad 1), .int ov_room_toldCount])), (ad 5, .inr (2, [.ref (ad 6), .ref (ad 7), .ref (ad 8), .ref (ad 9), .ref (ad 10), .ref (ad 11), .ref (ad 12), .int v_items_mustSet, .int v_items_count])), (ad 8, .inl (ki 0, n_ibar, .inl ov_ibar)), (ad 49, .inl (ki 1, 1, .inr (.inl (vp_updL vo (Int32.toNatClampNeg 0) 0))))] H := hP
      refine lv_goto (tgt := 28) hx hb d_Law_bar_17 (by decide) ?_
      refine lv_iconst (v := 0) hx hb d_Law_bar_28 (by decide) ?_
      exact W.widen (Nat.le_of_ble_eq_true rfl) (Nat.le_of_ble_eq_true rfl) (W.iret (v := 0) hx hb hr (fun t ht hW => ⟨rfl, by rw [ht]; exact hP, hS.F ht⟩) hS.2.2 d_Law_bar_29)
    · rw [show bJ r = 1 from if_pos c9]
      refine lv_lconst (v := 1) hx hb d_Law_bar_11 (by decide) ?_
      refine lv_goto (tgt := 16) hx hb d_Law_bar_12 (by decide) ?_
      refine va_last (x := 1) hx hb hK hP hD hS 3 1 rfl rfl q_in01 d_Law_bar_16 (fun H locs hP hD hS => ?_)
      replace hP : va_P D vwCl [(ad 0, .inr (0, [.ref (ad 2), .ref (ad 5), .ref (ad 13), .ref (ad 25), .ref (ad 27), .ref (ad 1), .int ov_room_toldCount])), (ad 5, .inr (2, [.ref (ad 6), .ref (ad 7), .ref (ad 8), .ref (ad 9), .ref (ad 10), .ref (ad 11), .ref (ad 12), .int v_items_mustSet, .int v_items_count])), (ad 8, .inl (ki 0, n_ibar, .inl ov_ibar)), (ad 49, .inl (ki 1, 1, .inr (.inl (vp_updL vo (Int32.toNatClampNeg 0) 1))))] H := hP
      refine lv_goto (tgt := 28) hx hb d_Law_bar_17 (by decide) ?_
      refine lv_iconst (v := 0) hx hb d_Law_bar_28 (by decide) ?_
      exact W.widen (Nat.le_of_ble_eq_true rfl) (Nat.le_of_ble_eq_true rfl) (W.iret (v := 0) hx hb hr (fun t ht hW => ⟨rfl, by rw [ht]; exact hP, hS.F ht⟩) hS.2.2 d_Law_bar_29)
  · intro h0
    exact absurd rfl h0
set_option maxRecDepth 100000 in
set_option maxHeartbeats 4000000 in
theorem x_Law_bar_3 (l : Launch) (hl9 : l.stackTraces = false) (D : va_G) (ad : Nat → Nat) (ki : Nat → ClassId) (n_ibar : Nat) (v_room_toldCount : Int32) (v_items_mustSet : Int32) (v_items_count : Int32) (v_ibar : Nat → Int32) (p1 : Int32) (p2 : Int32) (N : Nat) (sz : Nat) (vo : Nat → Int64) (r : Bool) (ov_room_toldCount : Int32) (ov_ibar : Nat → Int32) (hf : f_RoomFills_bar N n_ibar v_room_toldCount v_items_mustSet v_items_count v_ibar p1 p2 = some (3, r, ov_room_toldCount, ov_ibar)) : Met l y_Law_bar w_Law_bar { frames := 9, cells := 4, slots := 24, locals := 240 } (q_PcMX [.ref (ad 0), .int p1, .int p2, .ref (ad 49)] D vwCl [(ad 0, .inr (0, [.ref (ad 2), .ref (ad 5), .ref (ad 13), .ref (ad 25), .ref (ad 27), .ref (ad 1), .int v_room_toldCount])), (ad 5, .inr (2, [.ref (ad 6), .ref (ad 7), .ref (ad 8), .ref (ad 9), .ref (ad 10), .ref (ad 11), .ref (ad 12), .int v_items_mustSet, .int v_items_count])), (ad 8, .inl (ki 0, n_ibar, .inl v_ibar)), (ad 49, .inl (ki 1, 1, .inr (.inl vo)))] (TYS ki) sz) (q_Qm (some (.int 1)) D vwCl [(ad 0, .inr (0, [.ref (ad 2), .ref (ad 5), .ref (ad 13), .ref (ad 25), .ref (ad 27), .ref (ad 1), .int v_room_toldCount])), (ad 5, .inr (2, [.ref (ad 6), .ref (ad 7), .ref (ad 8), .ref (ad 9), .ref (ad 10), .ref (ad 11), .ref (ad 12), .int v_items_mustSet, .int v_items_count])), (ad 8, .inl (ki 0, n_ibar, .inl v_ibar)), (ad 49, .inl (ki 1, 1, .inr (.inl vo)))] (va_A [(ad 0, .inr (0, [.ref (ad 2), .ref (ad 5), .ref (ad 13), .ref (ad 25), .ref (ad 27), .ref (ad 1), .int v_room_toldCount])), (ad 5, .inr (2, [.ref (ad 6), .ref (ad 7), .ref (ad 8), .ref (ad 9), .ref (ad 10), .ref (ad 11), .ref (ad 12), .int v_items_mustSet, .int v_items_count])), (ad 8, .inl (ki 0, n_ibar, .inl v_ibar)), (ad 49, .inl (ki 1, 1, .inr (.inl vo)))] sz)) 4 24 (va_A [(ad 0, .inr (0, [.ref (ad 2), .ref (ad 5), .ref (ad 13), .ref (ad 25), .ref (ad 27), .ref (ad 1), .int v_room_toldCount])), (ad 5, .inr (2, [.ref (ad 6), .ref (ad 7), .ref (ad 8), .ref (ad 9), .ref (ad 10), .ref (ad 11), .ref (ad 12), .int v_items_mustSet, .int v_items_count])), (ad 8, .inl (ki 0, n_ibar, .inl v_ibar)), (ad 49, .inl (ki 1, 1, .inr (.inl vo)))] sz) := by
  refine q_ofWW (cc := b_Law_bar) (maxL := 5) (ret := some .int) (by decide) rfl ?_
  intro p e s m args below meth c s₁ B hml htab hv
  obtain ⟨rfl, hsz, hP, hK, hD0, hE, hZ⟩ := hv
  have hx := B.exec
  have hb := B.bytes
  have hr := B.returns
  have hts := atoms_spec (ws := w_Law_bar) B.pre
  have hown : s.vm.findClass R_Law = some m.cls := findClass_of_methodNamed B.named
  subst hsz
  have hD := hD0.self (sz := s.heap.size)
  generalize hAe : va_A [(ad 0, .inr (0, [.ref (ad 2), .ref (ad 5), .ref (ad 13), .ref (ad 25), .ref (ad 27), .ref (ad 1), .int v_room_toldCount])), (ad 5, .inr (2, [.ref (ad 6), .ref (ad 7), .ref (ad 8), .ref (ad 9), .ref (ad 10), .ref (ad 11), .ref (ad 12), .int v_items_mustSet, .int v_items_count])), (ad 8, .inl (ki 0, n_ibar, .inl v_ibar)), (ad 49, .inl (ki 1, 1, .inr (.inl vo)))] s.heap.size = A at hD hZ ⊢
  have hA : ∀ q : Nat, s.heap.size ≤ q → A q := fun q h => by rw [← hAe]; exact Or.inr h
  have hS : va_S A s.heap s.heap [] := va_S.rf
  replace hP : va_P D vwCl [(ad 0, .inr (0, [.ref (ad 2), .ref (ad 5), .ref (ad 13), .ref (ad 25), .ref (ad 27), .ref (ad 1), .int v_room_toldCount])), (ad 5, .inr (2, [.ref (ad 6), .ref (ad 7), .ref (ad 8), .ref (ad 9), .ref (ad 10), .ref (ad 11), .ref (ad 12), .int v_items_mustSet, .int v_items_count])), (ad 8, .inl (ki 0, n_ibar, .inl v_ibar)), (ad 49, .inl (ki 1, 1, .inr (.inl vo)))] s.heap := hP
  have hl := lv_entry ([.ref (ad 0), .int p1, .int p2, .ref (ad 49)]) (n := 5) (Nat.le_of_ble_eq_true rfl)
  rw [lg_entry_eq]
  generalize (lg_sl ([.ref (ad 0), .int p1, .int p2, .ref (ad 49)]) ++ List.replicate (5 - (lg_sl ([.ref (ad 0), .int p1, .int p2, .ref (ad 49)])).length) Slot.unset).toArray = ls at hl ⊢
  replace hl : lv_has ls 5 [(0, .ref (ad 0)), (1, .int p1), (2, .int p2), (3, .ref (ad 49))] := hl
  refine lv_aload_n hx hb d_Law_bar_0 rfl (lv_at hl 3 rfl) ?_
  refine lv_iconst (v := 0) hx hb d_Law_bar_1 (by decide) ?_
  refine lv_aload_n hx hb d_Law_bar_2 rfl (lv_at hl 0 rfl) ?_
  refine lv_iload_n hx hb d_Law_bar_3 rfl (lv_at hl 1 rfl) ?_
  refine lv_iload_n hx hb d_Law_bar_4 rfl (lv_at hl 2 rfl) ?_
  have hC : ([0, 1, 2] : List Nat).map (fun i => ([(ad 0, .inr (0, [.ref (ad 2), .ref (ad 5), .ref (ad 13), .ref (ad 25), .ref (ad 27), .ref (ad 1), .int v_room_toldCount])), (ad 5, .inr (2, [.ref (ad 6), .ref (ad 7), .ref (ad 8), .ref (ad 9), .ref (ad 10), .ref (ad 11), .ref (ad 12), .int v_items_mustSet, .int v_items_count])), (ad 8, .inl (ki 0, n_ibar, .inl v_ibar)), (ad 49, .inl (ki 1, 1, .inr (.inl vo)))] : va_W)[i]?) = ([(ad 0, .inr (0, [.ref (ad 2), .ref (ad 5), .ref (ad 13), .ref (ad 25), .ref (ad 27), .ref (ad 1), .int v_room_toldCount])), (ad 5, .inr (2, [.ref (ad 6), .ref (ad 7), .ref (ad 8), .ref (ad 9), .ref (ad 10), .ref (ad 11), .ref (ad 12), .int v_items_mustSet, .int v_items_count])), (ad 8, .inl (ki 0, n_ibar, .inl v_ibar))] : va_W).map some := rfl
  refine q_xcall3 (As := [.int p1, .int p2]) (rest := [.int 0, .ref (ad 49)]) (stk := [.int (bI r), .int 0, .ref (ad 49)]) (w1 := [(ad 0, .inr (0, [.ref (ad 2), .ref (ad 5), .ref (ad 13), .ref (ad 25), .ref (ad 27), .ref (ad 1), .int ov_room_toldCount])), (ad 5, .inr (2, [.ref (ad 6), .ref (ad 7), .ref (ad 8), .ref (ad 9), .ref (ad 10), .ref (ad 11), .ref (ad 12), .int v_items_mustSet, .int v_items_count])), (ad 8, .inl (ki 0, n_ibar, .inl ov_ibar))]) (ws' := [(ad 0, .inr (0, [.ref (ad 2), .ref (ad 5), .ref (ad 13), .ref (ad 25), .ref (ad 27), .ref (ad 1), .int ov_room_toldCount])), (ad 5, .inr (2, [.ref (ad 6), .ref (ad 7), .ref (ad 8), .ref (ad 9), .ref (ad 10), .ref (ad 11), .ref (ad 12), .int v_items_mustSet, .int v_items_count])), (ad 8, .inl (ki 0, n_ibar, .inl ov_ibar)), (ad 49, .inl (ki 1, 1, .inr (.inl vo)))]) (wc := [(ad 0, .inr (0, [.ref (ad 2), .ref (ad 5), .ref (ad 13), .ref (ad 25), .ref (ad 27), .ref (ad 1), .int v_room_toldCount])), (ad 5, .inr (2, [.ref (ad 6), .ref (ad 7), .ref (ad 8), .ref (ad 9), .ref (ad 10), .ref (ad 11), .ref (ad 12), .int v_items_mustSet, .int v_items_count])), (ad 8, .inl (ki 0, n_ibar, .inl v_ibar))]) ⟨hx, hb, hml, hown, hts⟩ (c_RoomFills_bar l hl9 D ad ki n_ibar v_room_toldCount v_items_mustSet v_items_count v_ibar p1 p2 N s.heap.size 3 r ov_room_toldCount ov_ibar hf) (cwV 2 hts (q_goodV ⟨m_747, m_748, m_749, m_54⟩ m_750) rfl rfl rfl (by decide +kernel) ⟨Nat.le_of_ble_eq_true rfl, Nat.le_of_ble_eq_true rfl⟩) (q_preVMX3 hE hZ hK hP hD hS hA (by decide +kernel) hC 0 0 rfl rfl) rfl hl.1 rfl (lv_room (Nat.le_of_ble_eq_true rfl)) d_Law_bar_5 ⟨Nat.le_of_ble_eq_true rfl, Nat.le_of_ble_eq_true rfl⟩ hP hD hS hA hC [ad 0, ad 5, ad 8, ad 49] rfl rfl (fun H1 h1 hk => (q_c (h1 0 _ rfl) (q_c (h1 1 _ rfl) (q_c (h1 2 _ rfl) (q_c (hk 3 _ rfl (by decide)) q_n))))) rfl ?_ ?_
  · intro h0
    exact absurd h0 (by decide)
  · intro _ q H ce g1 g2 g3 hP hS
    obtain ⟨x0, x1, hsp, hx0, hx1⟩ := q_tab2 htab
    have e1_0 : x0.startPc = 0 := congrArg (fun z => z.1) hx0
    have e2_0 : x0.endPc = 17 := congrArg (fun z => z.2.1) hx0
    have e3_0 : x0.handlerPc = 20 := congrArg (fun z => z.2.2.1) hx0
    have e4_0 : x0.catchType = 28 := congrArg (fun z => z.2.2.2) hx0
    have hpass : ∀ z ∈ ([] : List ExceptionTableEntry), z.catchType ≠ 0 ∧ ∃ nm : String, (Cond.classLink R_Law z.catchType nm).before ([.ref (ad 0), .int p1, .int p2, .ref (ad 49)] : List Value).toArray s = true ∧ va_Nc "java/lang/IndexOutOfBoundsException" nm s := by
      intro z hz
      cases hz
    have hcw : Cond.castable "java/lang/IndexOutOfBoundsException" "java/lang/IndexOutOfBoundsException" ∈ q_NW := by decide
    refine q_catch (E := "java/lang/IndexOutOfBoundsException") (name := "java/lang/IndexOutOfBoundsException") hown [] x0 [x1] hsp hpass (by simp [covers, e1_0, e2_0]) (by rw [e4_0]; decide) (by rw [e4_0]; exact hts (.classLink R_Law 28 "java/lang/IndexOutOfBoundsException") (List.mem_cons_of_mem _ m_696)) (va_Nw.use (q_NW_ok _ hcw) (hE.1 _ hcw)) g1 g2 g3 ?_
    rw [e3_0]
    refine lv_astore (lv' := ((4, .ref q) :: [(0, .ref (ad 0)), (1, .int p1), (2, .int p2), (3, .ref (ad 49))])) hx hb d_Law_bar_20 hl (by decide) rfl (fun ls hl => ?_)
    refine lv_iconst (v := 1) hx hb d_Law_bar_22 (by decide) ?_
    exact W.widen (Nat.le_of_ble_eq_true rfl) (Nat.le_of_ble_eq_true rfl) (W.iret (v := 1) hx hb hr (fun t ht hW => ⟨rfl, by rw [ht]; exact hP, hS.F ht⟩) hS.2.2 d_Law_bar_23)
set_option maxRecDepth 100000 in
set_option maxHeartbeats 4000000 in
theorem x_Law_bar_2 (l : Launch) (hl9 : l.stackTraces = false) (D : va_G) (ad : Nat → Nat) (ki : Nat → ClassId) (n_ibar : Nat) (v_room_toldCount : Int32) (v_items_mustSet : Int32) (v_items_count : Int32) (v_ibar : Nat → Int32) (p1 : Int32) (p2 : Int32) (N : Nat) (sz : Nat) (vo : Nat → Int64) (r : Bool) (ov_room_toldCount : Int32) (ov_ibar : Nat → Int32) (hf : f_RoomFills_bar N n_ibar v_room_toldCount v_items_mustSet v_items_count v_ibar p1 p2 = some (2, r, ov_room_toldCount, ov_ibar)) : Met l y_Law_bar w_Law_bar { frames := 9, cells := 4, slots := 24, locals := 240 } (q_PcMX [.ref (ad 0), .int p1, .int p2, .ref (ad 49)] D vwCl [(ad 0, .inr (0, [.ref (ad 2), .ref (ad 5), .ref (ad 13), .ref (ad 25), .ref (ad 27), .ref (ad 1), .int v_room_toldCount])), (ad 5, .inr (2, [.ref (ad 6), .ref (ad 7), .ref (ad 8), .ref (ad 9), .ref (ad 10), .ref (ad 11), .ref (ad 12), .int v_items_mustSet, .int v_items_count])), (ad 8, .inl (ki 0, n_ibar, .inl v_ibar)), (ad 49, .inl (ki 1, 1, .inr (.inl vo)))] (TYS ki) sz) (q_Qm (some (.int 2)) D vwCl [(ad 0, .inr (0, [.ref (ad 2), .ref (ad 5), .ref (ad 13), .ref (ad 25), .ref (ad 27), .ref (ad 1), .int v_room_toldCount])), (ad 5, .inr (2, [.ref (ad 6), .ref (ad 7), .ref (ad 8), .ref (ad 9), .ref (ad 10), .ref (ad 11), .ref (ad 12), .int v_items_mustSet, .int v_items_count])), (ad 8, .inl (ki 0, n_ibar, .inl v_ibar)), (ad 49, .inl (ki 1, 1, .inr (.inl vo)))] (va_A [(ad 0, .inr (0, [.ref (ad 2), .ref (ad 5), .ref (ad 13), .ref (ad 25), .ref (ad 27), .ref (ad 1), .int v_room_toldCount])), (ad 5, .inr (2, [.ref (ad 6), .ref (ad 7), .ref (ad 8), .ref (ad 9), .ref (ad 10), .ref (ad 11), .ref (ad 12), .int v_items_mustSet, .int v_items_count])), (ad 8, .inl (ki 0, n_ibar, .inl v_ibar)), (ad 49, .inl (ki 1, 1, .inr (.inl vo)))] sz)) 4 24 (va_A [(ad 0, .inr (0, [.ref (ad 2), .ref (ad 5), .ref (ad 13), .ref (ad 25), .ref (ad 27), .ref (ad 1), .int v_room_toldCount])), (ad 5, .inr (2, [.ref (ad 6), .ref (ad 7), .ref (ad 8), .ref (ad 9), .ref (ad 10), .ref (ad 11), .ref (ad 12), .int v_items_mustSet, .int v_items_count])), (ad 8, .inl (ki 0, n_ibar, .inl v_ibar)), (ad 49, .inl (ki 1, 1, .inr (.inl vo)))] sz) := by
  refine q_ofWW (cc := b_Law_bar) (maxL := 5) (ret := some .int) (by decide) rfl ?_
  intro p e s m args below meth c s₁ B hml htab hv
  obtain ⟨rfl, hsz, hP, hK, hD0, hE, hZ⟩ := hv
  have hx := B.exec
  have hb := B.bytes
  have hr := B.returns
  have hts := atoms_spec (ws := w_Law_bar) B.pre
  have hown : s.vm.findClass R_Law = some m.cls := findClass_of_methodNamed B.named
  subst hsz
  have hD := hD0.self (sz := s.heap.size)
  generalize hAe : va_A [(ad 0, .inr (0, [.ref (ad 2), .ref (ad 5), .ref (ad 13), .ref (ad 25), .ref (ad 27), .ref (ad 1), .int v_room_toldCount])), (ad 5, .inr (2, [.ref (ad 6), .ref (ad 7), .ref (ad 8), .ref (ad 9), .ref (ad 10), .ref (ad 11), .ref (ad 12), .int v_items_mustSet, .int v_items_count])), (ad 8, .inl (ki 0, n_ibar, .inl v_ibar)), (ad 49, .inl (ki 1, 1, .inr (.inl vo)))] s.heap.size = A at hD hZ ⊢
  have hA : ∀ q : Nat, s.heap.size ≤ q → A q := fun q h => by rw [← hAe]; exact Or.inr h
  have hS : va_S A s.heap s.heap [] := va_S.rf
  replace hP : va_P D vwCl [(ad 0, .inr (0, [.ref (ad 2), .ref (ad 5), .ref (ad 13), .ref (ad 25), .ref (ad 27), .ref (ad 1), .int v_room_toldCount])), (ad 5, .inr (2, [.ref (ad 6), .ref (ad 7), .ref (ad 8), .ref (ad 9), .ref (ad 10), .ref (ad 11), .ref (ad 12), .int v_items_mustSet, .int v_items_count])), (ad 8, .inl (ki 0, n_ibar, .inl v_ibar)), (ad 49, .inl (ki 1, 1, .inr (.inl vo)))] s.heap := hP
  have hl := lv_entry ([.ref (ad 0), .int p1, .int p2, .ref (ad 49)]) (n := 5) (Nat.le_of_ble_eq_true rfl)
  rw [lg_entry_eq]
  generalize (lg_sl ([.ref (ad 0), .int p1, .int p2, .ref (ad 49)]) ++ List.replicate (5 - (lg_sl ([.ref (ad 0), .int p1, .int p2, .ref (ad 49)])).length) Slot.unset).toArray = ls at hl ⊢
  replace hl : lv_has ls 5 [(0, .ref (ad 0)), (1, .int p1), (2, .int p2), (3, .ref (ad 49))] := hl
  refine lv_aload_n hx hb d_Law_bar_0 rfl (lv_at hl 3 rfl) ?_
  refine lv_iconst (v := 0) hx hb d_Law_bar_1 (by decide) ?_
  refine lv_aload_n hx hb d_Law_bar_2 rfl (lv_at hl 0 rfl) ?_
  refine lv_iload_n hx hb d_Law_bar_3 rfl (lv_at hl 1 rfl) ?_
  refine lv_iload_n hx hb d_Law_bar_4 rfl (lv_at hl 2 rfl) ?_
  have hC : ([0, 1, 2] : List Nat).map (fun i => ([(ad 0, .inr (0, [.ref (ad 2), .ref (ad 5), .ref (ad 13), .ref (ad 25), .ref (ad 27), .ref (ad 1), .int v_room_toldCount])), (ad 5, .inr (2, [.ref (ad 6), .ref (ad 7), .ref (ad 8), .ref (ad 9), .ref (ad 10), .ref (ad 11), .ref (ad 12), .int v_items_mustSet, .int v_items_count])), (ad 8, .inl (ki 0, n_ibar, .inl v_ibar)), (ad 49, .inl (ki 1, 1, .inr (.inl vo)))] : va_W)[i]?) = ([(ad 0, .inr (0, [.ref (ad 2), .ref (ad 5), .ref (ad 13), .ref (ad 25), .ref (ad 27), .ref (ad 1), .int v_room_toldCount])), (ad 5, .inr (2, [.ref (ad 6), .ref (ad 7), .ref (ad 8), .ref (ad 9), .ref (ad 10), .ref (ad 11), .ref (ad 12), .int v_items_mustSet, .int v_items_count])), (ad 8, .inl (ki 0, n_ibar, .inl v_ibar))] : va_W).map some := rfl
  refine q_xcall3 (As := [.int p1, .int p2]) (rest := [.int 0, .ref (ad 49)]) (stk := [.int (bI r), .int 0, .ref (ad 49)]) (w1 := [(ad 0, .inr (0, [.ref (ad 2), .ref (ad 5), .ref (ad 13), .ref (ad 25), .ref (ad 27), .ref (ad 1), .int ov_room_toldCount])), (ad 5, .inr (2, [.ref (ad 6), .ref (ad 7), .ref (ad 8), .ref (ad 9), .ref (ad 10), .ref (ad 11), .ref (ad 12), .int v_items_mustSet, .int v_items_count])), (ad 8, .inl (ki 0, n_ibar, .inl ov_ibar))]) (ws' := [(ad 0, .inr (0, [.ref (ad 2), .ref (ad 5), .ref (ad 13), .ref (ad 25), .ref (ad 27), .ref (ad 1), .int ov_room_toldCount])), (ad 5, .inr (2, [.ref (ad 6), .ref (ad 7), .ref (ad 8), .ref (ad 9), .ref (ad 10), .ref (ad 11), .ref (ad 12), .int v_items_mustSet, .int v_items_count])), (ad 8, .inl (ki 0, n_ibar, .inl ov_ibar)), (ad 49, .inl (ki 1, 1, .inr (.inl vo)))]) (wc := [(ad 0, .inr (0, [.ref (ad 2), .ref (ad 5), .ref (ad 13), .ref (ad 25), .ref (ad 27), .ref (ad 1), .int v_room_toldCount])), (ad 5, .inr (2, [.ref (ad 6), .ref (ad 7), .ref (ad 8), .ref (ad 9), .ref (ad 10), .ref (ad 11), .ref (ad 12), .int v_items_mustSet, .int v_items_count])), (ad 8, .inl (ki 0, n_ibar, .inl v_ibar))]) ⟨hx, hb, hml, hown, hts⟩ (c_RoomFills_bar l hl9 D ad ki n_ibar v_room_toldCount v_items_mustSet v_items_count v_ibar p1 p2 N s.heap.size 2 r ov_room_toldCount ov_ibar hf) (cwV 2 hts (q_goodV ⟨m_747, m_748, m_749, m_54⟩ m_750) rfl rfl rfl (by decide +kernel) ⟨Nat.le_of_ble_eq_true rfl, Nat.le_of_ble_eq_true rfl⟩) (q_preVMX3 hE hZ hK hP hD hS hA (by decide +kernel) hC 0 0 rfl rfl) rfl hl.1 rfl (lv_room (Nat.le_of_ble_eq_true rfl)) d_Law_bar_5 ⟨Nat.le_of_ble_eq_true rfl, Nat.le_of_ble_eq_true rfl⟩ hP hD hS hA hC [ad 0, ad 5, ad 8, ad 49] rfl rfl (fun H1 h1 hk => (q_c (h1 0 _ rfl) (q_c (h1 1 _ rfl) (q_c (h1 2 _ rfl) (q_c (hk 3 _ rfl (by decide)) q_n))))) rfl ?_ ?_
  · intro h0
    exact absurd h0 (by decide)
  · intro _ q H ce g1 g2 g3 hP hS
    obtain ⟨x0, x1, hsp, hx0, hx1⟩ := q_tab2 htab
    have e1_0 : x0.startPc = 0 := congrArg (fun z => z.1) hx0
    have e2_0 : x0.endPc = 17 := congrArg (fun z => z.2.1) hx0
    have e3_0 : x0.handlerPc = 20 := congrArg (fun z => z.2.2.1) hx0
    have e4_0 : x0.catchType = 28 := congrArg (fun z => z.2.2.2) hx0
    have e1_1 : x1.startPc = 0 := congrArg (fun z => z.1) hx1
    have e2_1 : x1.endPc = 17 := congrArg (fun z => z.2.1) hx1
    have e3_1 : x1.handlerPc = 24 := congrArg (fun z => z.2.2.1) hx1
    have e4_1 : x1.catchType = 13 := congrArg (fun z => z.2.2.2) hx1
    have hpass : ∀ z ∈ ([x0] : List ExceptionTableEntry), z.catchType ≠ 0 ∧ ∃ nm : String, (Cond.classLink R_Law z.catchType nm).before ([.ref (ad 0), .int p1, .int p2, .ref (ad 49)] : List Value).toArray s = true ∧ va_Nc "java/lang/IllegalArgumentException" nm s := by
      intro z hz
      simp only [List.mem_cons, List.not_mem_nil, or_false] at hz
      rcases hz with rfl
      · exact ⟨by rw [e4_0]; decide, "java/lang/IndexOutOfBoundsException", (by rw [e4_0]; exact hts (.classLink R_Law 28 "java/lang/IndexOutOfBoundsException") (List.mem_cons_of_mem _ m_696)), hE.2.2 ("java/lang/IllegalArgumentException", "java/lang/IndexOutOfBoundsException") (by decide)⟩
    have hcw : Cond.castable "java/lang/IllegalArgumentException" "java/lang/IllegalArgumentException" ∈ q_NW := by decide
    refine q_catch (E := "java/lang/IllegalArgumentException") (name := "java/lang/IllegalArgumentException") hown [x0] x1 [] hsp hpass (by simp [covers, e1_1, e2_1]) (by rw [e4_1]; decide) (by rw [e4_1]; exact hts (.classLink R_Law 13 "java/lang/IllegalArgumentException") (List.mem_cons_of_mem _ m_565)) (va_Nw.use (q_NW_ok _ hcw) (hE.1 _ hcw)) g1 g2 g3 ?_
    rw [e3_1]
    refine lv_astore (lv' := ((4, .ref q) :: [(0, .ref (ad 0)), (1, .int p1), (2, .int p2), (3, .ref (ad 49))])) hx hb d_Law_bar_24 hl (by decide) rfl (fun ls hl => ?_)
    refine lv_iconst (v := 2) hx hb d_Law_bar_26 (by decide) ?_
    exact W.widen (Nat.le_of_ble_eq_true rfl) (Nat.le_of_ble_eq_true rfl) (W.iret (v := 2) hx hb hr (fun t ht hW => ⟨rfl, by rw [ht]; exact hP, hS.F ht⟩) hS.2.2 d_Law_bar_27)
set_option maxRecDepth 100000 in
set_option maxHeartbeats 4000000 in
theorem x_Law_must_0 (l : Launch) (hl9 : l.stackTraces = false) (D : va_G) (ad : Nat → Nat) (ki : Nat → ClassId) (v_room_toldCount : Int32) (v_items_mustSet : Int32) (v_items_count : Int32) (p1 : Int32) (p2 : Bool) (N : Nat) (sz : Nat) (vo : Nat → Int64) (r : Bool) (ov_room_toldCount : Int32) (ov_items_mustSet : Int32) (hf : f_RoomFills_must N v_room_toldCount v_items_mustSet v_items_count p1 p2 = some (0, r, ov_room_toldCount, ov_items_mustSet)) : Met l y_Law_must w_Law_must { frames := 9, cells := 4, slots := 24, locals := 240 } (q_PcMX [.ref (ad 0), .int p1, .int (bI p2), .ref (ad 49)] D vwCl [(ad 0, .inr (0, [.ref (ad 2), .ref (ad 5), .ref (ad 13), .ref (ad 25), .ref (ad 27), .ref (ad 1), .int v_room_toldCount])), (ad 5, .inr (2, [.ref (ad 6), .ref (ad 7), .ref (ad 8), .ref (ad 9), .ref (ad 10), .ref (ad 11), .ref (ad 12), .int v_items_mustSet, .int v_items_count])), (ad 49, .inl (ki 1, 1, .inr (.inl vo)))] (TYS ki) sz) (q_Qm (some (.int 0)) D vwCl [(ad 0, .inr (0, [.ref (ad 2), .ref (ad 5), .ref (ad 13), .ref (ad 25), .ref (ad 27), .ref (ad 1), .int ov_room_toldCount])), (ad 5, .inr (2, [.ref (ad 6), .ref (ad 7), .ref (ad 8), .ref (ad 9), .ref (ad 10), .ref (ad 11), .ref (ad 12), .int ov_items_mustSet, .int v_items_count])), (ad 49, .inl (ki 1, 1, .inr (.inl (vp_updL vo (Int32.toNatClampNeg 0) (bJ r)))))] (va_A [(ad 0, .inr (0, [.ref (ad 2), .ref (ad 5), .ref (ad 13), .ref (ad 25), .ref (ad 27), .ref (ad 1), .int v_room_toldCount])), (ad 5, .inr (2, [.ref (ad 6), .ref (ad 7), .ref (ad 8), .ref (ad 9), .ref (ad 10), .ref (ad 11), .ref (ad 12), .int v_items_mustSet, .int v_items_count])), (ad 49, .inl (ki 1, 1, .inr (.inl vo)))] sz)) 4 24 (va_A [(ad 0, .inr (0, [.ref (ad 2), .ref (ad 5), .ref (ad 13), .ref (ad 25), .ref (ad 27), .ref (ad 1), .int v_room_toldCount])), (ad 5, .inr (2, [.ref (ad 6), .ref (ad 7), .ref (ad 8), .ref (ad 9), .ref (ad 10), .ref (ad 11), .ref (ad 12), .int v_items_mustSet, .int v_items_count])), (ad 49, .inl (ki 1, 1, .inr (.inl vo)))] sz) := by
  refine q_ofWW (cc := b_Law_must) (maxL := 5) (ret := some .int) (by decide) rfl ?_
  intro p e s m args below meth c s₁ B hml htab hv
  obtain ⟨rfl, hsz, hP, hK, hD0, hE, hZ⟩ := hv
  have hx := B.exec
  have hb := B.bytes
  have hr := B.returns
  have hts := atoms_spec (ws := w_Law_must) B.pre
  have hown : s.vm.findClass R_Law = some m.cls := findClass_of_methodNamed B.named
  subst hsz
  have hD := hD0.self (sz := s.heap.size)
  generalize hAe : va_A [(ad 0, .inr (0, [.ref (ad 2), .ref (ad 5), .ref (ad 13), .ref (ad 25), .ref (ad 27), .ref (ad 1), .int v_room_toldCount])), (ad 5, .inr (2, [.ref (ad 6), .ref (ad 7), .ref (ad 8), .ref (ad 9), .ref (ad 10), .ref (ad 11), .ref (ad 12), .int v_items_mustSet, .int v_items_count])), (ad 49, .inl (ki 1, 1, .inr (.inl vo)))] s.heap.size = A at hD hZ ⊢
  have hA : ∀ q : Nat, s.heap.size ≤ q → A q := fun q h => by rw [← hAe]; exact Or.inr h
  have hS : va_S A s.heap s.heap [] := va_S.rf
  replace hP : va_P D vwCl [(ad 0, .inr (0, [.ref (ad 2), .ref (ad 5), .ref (ad 13), .ref (ad 25), .ref (ad 27), .ref (ad 1), .int v_room_toldCount])), (ad 5, .inr (2, [.ref (ad 6), .ref (ad 7), .ref (ad 8), .ref (ad 9), .ref (ad 10), .ref (ad 11), .ref (ad 12), .int v_items_mustSet, .int v_items_count])), (ad 49, .inl (ki 1, 1, .inr (.inl vo)))] s.heap := hP
  have hl := lv_entry ([.ref (ad 0), .int p1, .int (bI p2), .ref (ad 49)]) (n := 5) (Nat.le_of_ble_eq_true rfl)
  rw [lg_entry_eq]
  generalize (lg_sl ([.ref (ad 0), .int p1, .int (bI p2), .ref (ad 49)]) ++ List.replicate (5 - (lg_sl ([.ref (ad 0), .int p1, .int (bI p2), .ref (ad 49)])).length) Slot.unset).toArray = ls at hl ⊢
  replace hl : lv_has ls 5 [(0, .ref (ad 0)), (1, .int p1), (2, .int (bI p2)), (3, .ref (ad 49))] := hl
  refine lv_aload_n hx hb d_Law_must_0 rfl (lv_at hl 3 rfl) ?_
  refine lv_iconst (v := 0) hx hb d_Law_must_1 (by decide) ?_
  refine lv_aload_n hx hb d_Law_must_2 rfl (lv_at hl 0 rfl) ?_
  refine lv_iload_n hx hb d_Law_must_3 rfl (lv_at hl 1 rfl) ?_
  refine lv_iload_n hx hb d_Law_must_4 rfl (lv_at hl 2 rfl) ?_
  have hC : ([0, 1] : List Nat).map (fun i => ([(ad 0, .inr (0, [.ref (ad 2), .ref (ad 5), .ref (ad 13), .ref (ad 25), .ref (ad 27), .ref (ad 1), .int v_room_toldCount])), (ad 5, .inr (2, [.ref (ad 6), .ref (ad 7), .ref (ad 8), .ref (ad 9), .ref (ad 10), .ref (ad 11), .ref (ad 12), .int v_items_mustSet, .int v_items_count])), (ad 49, .inl (ki 1, 1, .inr (.inl vo)))] : va_W)[i]?) = ([(ad 0, .inr (0, [.ref (ad 2), .ref (ad 5), .ref (ad 13), .ref (ad 25), .ref (ad 27), .ref (ad 1), .int v_room_toldCount])), (ad 5, .inr (2, [.ref (ad 6), .ref (ad 7), .ref (ad 8), .ref (ad 9), .ref (ad 10), .ref (ad 11), .ref (ad 12), .int v_items_mustSet, .int v_items_count]))] : va_W).map some := rfl
  refine q_xcall3 (As := [.int p1, .int (bI p2)]) (rest := [.int 0, .ref (ad 49)]) (stk := [.int (bI r), .int 0, .ref (ad 49)]) (w1 := [(ad 0, .inr (0, [.ref (ad 2), .ref (ad 5), .ref (ad 13), .ref (ad 25), .ref (ad 27), .ref (ad 1), .int ov_room_toldCount])), (ad 5, .inr (2, [.ref (ad 6), .ref (ad 7), .ref (ad 8), .ref (ad 9), .ref (ad 10), .ref (ad 11), .ref (ad 12), .int ov_items_mustSet, .int v_items_count]))]) (ws' := [(ad 0, .inr (0, [.ref (ad 2), .ref (ad 5), .ref (ad 13), .ref (ad 25), .ref (ad 27), .ref (ad 1), .int ov_room_toldCount])), (ad 5, .inr (2, [.ref (ad 6), .ref (ad 7), .ref (ad 8), .ref (ad 9), .ref (ad 10), .ref (ad 11), .ref (ad 12), .int ov_items_mustSet, .int v_items_count])), (ad 49, .inl (ki 1, 1, .inr (.inl vo)))]) (wc := [(ad 0, .inr (0, [.ref (ad 2), .ref (ad 5), .ref (ad 13), .ref (ad 25), .ref (ad 27), .ref (ad 1), .int v_room_toldCount])), (ad 5, .inr (2, [.ref (ad 6), .ref (ad 7), .ref (ad 8), .ref (ad 9), .ref (ad 10), .ref (ad 11), .ref (ad 12), .int v_items_mustSet, .int v_items_count]))]) ⟨hx, hb, hml, hown, hts⟩ (c_RoomFills_must l hl9 D ad ki v_room_toldCount v_items_mustSet v_items_count p1 p2 N s.heap.size 0 r ov_room_toldCount ov_items_mustSet hf) (cwV 2 hts (q_goodV ⟨m_759, m_760, m_761, m_54⟩ m_762) rfl rfl rfl (by decide +kernel) ⟨Nat.le_of_ble_eq_true rfl, Nat.le_of_ble_eq_true rfl⟩) (q_preVMX3 hE hZ hK hP hD hS hA (by decide +kernel) hC 0 0 rfl rfl) rfl hl.1 rfl (lv_room (Nat.le_of_ble_eq_true rfl)) d_Law_must_5 ⟨Nat.le_of_ble_eq_true rfl, Nat.le_of_ble_eq_true rfl⟩ hP hD hS hA hC [ad 0, ad 5, ad 49] rfl rfl (fun H1 h1 hk => (q_c (h1 0 _ rfl) (q_c (h1 1 _ rfl) (q_c (hk 2 _ rfl (by decide)) q_n)))) rfl ?_ ?_
  · intro _
    intro H locs hP hD hS
    refine zv_eq (tgt := 15) hx hb d_Law_must_8 (by decide) (fun c9 => ?_) (fun c9 => ?_)
    · rw [show bJ r = 0 from if_neg c9]
      refine lv_lconst (v := 0) hx hb d_Law_must_15 (by decide) ?_
      refine va_last (x := 0) hx hb hK hP hD hS 2 1 rfl rfl q_in01 d_Law_must_16 (fun H locs hP hD hS => ?_)
      replace hP : va_P D vwCl [(ad 0, .inr (0, [.ref (ad 2), .ref (ad 5), .ref (ad 13), .ref (ad 25), .ref (ad 27), .ref (ad 1), .int ov_room_toldCount])), (ad 5, .inr (2, [.ref (ad 6), .ref (ad 7), .ref (ad 8), .ref (ad 9), .ref (ad 10), .ref (ad 11), .ref (ad 12), .int ov_items_mustSet, .int v_items_count])), (ad 49, .inl (ki 1, 1, .inr (.inl (vp_updL vo (Int32.toNatClampNeg 0) 0))))] H := hP
      refine lv_goto (tgt := 24) hx hb d_Law_must_17 (by decide) ?_
      refine lv_iconst (v := 0) hx hb d_Law_must_24 (by decide) ?_
      exact W.widen (Nat.le_of_ble_eq_true rfl) (Nat.le_of_ble_eq_true rfl) (W.iret (v := 0) hx hb hr (fun t ht hW => ⟨rfl, by rw [ht]; exact hP, hS.F ht⟩) hS.2.2 d_Law_must_25)
    · rw [show bJ r = 1 from if_pos c9]
      refine lv_lconst (v := 1) hx hb d_Law_must_11 (by decide) ?_
      refine lv_goto (tgt := 16) hx hb d_Law_must_12 (by decide) ?_
      refine va_last (x := 1) hx hb hK hP hD hS 2 1 rfl rfl q_in01 d_Law_must_16 (fun H locs hP hD hS => ?_)
      replace hP : va_P D vwCl [(ad 0, .inr (0, [.ref (ad 2), .ref (ad 5), .ref (ad 13), .ref (ad 25), .ref (ad 27), .ref (ad 1), .int ov_room_toldCount])), (ad 5, .inr (2, [.ref (ad 6), .ref (ad 7), .ref (ad 8), .ref (ad 9), .ref (ad 10), .ref (ad 11), .ref (ad 12), .int ov_items_mustSet, .int v_items_count])), (ad 49, .inl (ki 1, 1, .inr (.inl (vp_updL vo (Int32.toNatClampNeg 0) 1))))] H := hP
      refine lv_goto (tgt := 24) hx hb d_Law_must_17 (by decide) ?_
      refine lv_iconst (v := 0) hx hb d_Law_must_24 (by decide) ?_
      exact W.widen (Nat.le_of_ble_eq_true rfl) (Nat.le_of_ble_eq_true rfl) (W.iret (v := 0) hx hb hr (fun t ht hW => ⟨rfl, by rw [ht]; exact hP, hS.F ht⟩) hS.2.2 d_Law_must_25)
  · intro h0
    exact absurd rfl h0
set_option maxRecDepth 100000 in
set_option maxHeartbeats 4000000 in
theorem x_Law_must_3 (l : Launch) (hl9 : l.stackTraces = false) (D : va_G) (ad : Nat → Nat) (ki : Nat → ClassId) (v_room_toldCount : Int32) (v_items_mustSet : Int32) (v_items_count : Int32) (p1 : Int32) (p2 : Bool) (N : Nat) (sz : Nat) (vo : Nat → Int64) (r : Bool) (ov_room_toldCount : Int32) (ov_items_mustSet : Int32) (hf : f_RoomFills_must N v_room_toldCount v_items_mustSet v_items_count p1 p2 = some (3, r, ov_room_toldCount, ov_items_mustSet)) : Met l y_Law_must w_Law_must { frames := 9, cells := 4, slots := 24, locals := 240 } (q_PcMX [.ref (ad 0), .int p1, .int (bI p2), .ref (ad 49)] D vwCl [(ad 0, .inr (0, [.ref (ad 2), .ref (ad 5), .ref (ad 13), .ref (ad 25), .ref (ad 27), .ref (ad 1), .int v_room_toldCount])), (ad 5, .inr (2, [.ref (ad 6), .ref (ad 7), .ref (ad 8), .ref (ad 9), .ref (ad 10), .ref (ad 11), .ref (ad 12), .int v_items_mustSet, .int v_items_count])), (ad 49, .inl (ki 1, 1, .inr (.inl vo)))] (TYS ki) sz) (q_Qm (some (.int 1)) D vwCl [(ad 0, .inr (0, [.ref (ad 2), .ref (ad 5), .ref (ad 13), .ref (ad 25), .ref (ad 27), .ref (ad 1), .int v_room_toldCount])), (ad 5, .inr (2, [.ref (ad 6), .ref (ad 7), .ref (ad 8), .ref (ad 9), .ref (ad 10), .ref (ad 11), .ref (ad 12), .int v_items_mustSet, .int v_items_count])), (ad 49, .inl (ki 1, 1, .inr (.inl vo)))] (va_A [(ad 0, .inr (0, [.ref (ad 2), .ref (ad 5), .ref (ad 13), .ref (ad 25), .ref (ad 27), .ref (ad 1), .int v_room_toldCount])), (ad 5, .inr (2, [.ref (ad 6), .ref (ad 7), .ref (ad 8), .ref (ad 9), .ref (ad 10), .ref (ad 11), .ref (ad 12), .int v_items_mustSet, .int v_items_count])), (ad 49, .inl (ki 1, 1, .inr (.inl vo)))] sz)) 4 24 (va_A [(ad 0, .inr (0, [.ref (ad 2), .ref (ad 5), .ref (ad 13), .ref (ad 25), .ref (ad 27), .ref (ad 1), .int v_room_toldCount])), (ad 5, .inr (2, [.ref (ad 6), .ref (ad 7), .ref (ad 8), .ref (ad 9), .ref (ad 10), .ref (ad 11), .ref (ad 12), .int v_items_mustSet, .int v_items_count])), (ad 49, .inl (ki 1, 1, .inr (.inl vo)))] sz) := by
  refine q_ofWW (cc := b_Law_must) (maxL := 5) (ret := some .int) (by decide) rfl ?_
  intro p e s m args below meth c s₁ B hml htab hv
  obtain ⟨rfl, hsz, hP, hK, hD0, hE, hZ⟩ := hv
  have hx := B.exec
  have hb := B.bytes
  have hr := B.returns
  have hts := atoms_spec (ws := w_Law_must) B.pre
  have hown : s.vm.findClass R_Law = some m.cls := findClass_of_methodNamed B.named
  subst hsz
  have hD := hD0.self (sz := s.heap.size)
  generalize hAe : va_A [(ad 0, .inr (0, [.ref (ad 2), .ref (ad 5), .ref (ad 13), .ref (ad 25), .ref (ad 27), .ref (ad 1), .int v_room_toldCount])), (ad 5, .inr (2, [.ref (ad 6), .ref (ad 7), .ref (ad 8), .ref (ad 9), .ref (ad 10), .ref (ad 11), .ref (ad 12), .int v_items_mustSet, .int v_items_count])), (ad 49, .inl (ki 1, 1, .inr (.inl vo)))] s.heap.size = A at hD hZ ⊢
  have hA : ∀ q : Nat, s.heap.size ≤ q → A q := fun q h => by rw [← hAe]; exact Or.inr h
  have hS : va_S A s.heap s.heap [] := va_S.rf
  replace hP : va_P D vwCl [(ad 0, .inr (0, [.ref (ad 2), .ref (ad 5), .ref (ad 13), .ref (ad 25), .ref (ad 27), .ref (ad 1), .int v_room_toldCount])), (ad 5, .inr (2, [.ref (ad 6), .ref (ad 7), .ref (ad 8), .ref (ad 9), .ref (ad 10), .ref (ad 11), .ref (ad 12), .int v_items_mustSet, .int v_items_count])), (ad 49, .inl (ki 1, 1, .inr (.inl vo)))] s.heap := hP
  have hl := lv_entry ([.ref (ad 0), .int p1, .int (bI p2), .ref (ad 49)]) (n := 5) (Nat.le_of_ble_eq_true rfl)
  rw [lg_entry_eq]
  generalize (lg_sl ([.ref (ad 0), .int p1, .int (bI p2), .ref (ad 49)]) ++ List.replicate (5 - (lg_sl ([.ref (ad 0), .int p1, .int (bI p2), .ref (ad 49)])).length) Slot.unset).toArray = ls at hl ⊢
  replace hl : lv_has ls 5 [(0, .ref (ad 0)), (1, .int p1), (2, .int (bI p2)), (3, .ref (ad 49))] := hl
  refine lv_aload_n hx hb d_Law_must_0 rfl (lv_at hl 3 rfl) ?_
  refine lv_iconst (v := 0) hx hb d_Law_must_1 (by decide) ?_
  refine lv_aload_n hx hb d_Law_must_2 rfl (lv_at hl 0 rfl) ?_
  refine lv_iload_n hx hb d_Law_must_3 rfl (lv_at hl 1 rfl) ?_
  refine lv_iload_n hx hb d_Law_must_4 rfl (lv_at hl 2 rfl) ?_
  have hC : ([0, 1] : List Nat).map (fun i => ([(ad 0, .inr (0, [.ref (ad 2), .ref (ad 5), .ref (ad 13), .ref (ad 25), .ref (ad 27), .ref (ad 1), .int v_room_toldCount])), (ad 5, .inr (2, [.ref (ad 6), .ref (ad 7), .ref (ad 8), .ref (ad 9), .ref (ad 10), .ref (ad 11), .ref (ad 12), .int v_items_mustSet, .int v_items_count])), (ad 49, .inl (ki 1, 1, .inr (.inl vo)))] : va_W)[i]?) = ([(ad 0, .inr (0, [.ref (ad 2), .ref (ad 5), .ref (ad 13), .ref (ad 25), .ref (ad 27), .ref (ad 1), .int v_room_toldCount])), (ad 5, .inr (2, [.ref (ad 6), .ref (ad 7), .ref (ad 8), .ref (ad 9), .ref (ad 10), .ref (ad 11), .ref (ad 12), .int v_items_mustSet, .int v_items_count]))] : va_W).map some := rfl
  refine q_xcall3 (As := [.int p1, .int (bI p2)]) (rest := [.int 0, .ref (ad 49)]) (stk := [.int (bI r), .int 0, .ref (ad 49)]) (w1 := [(ad 0, .inr (0, [.ref (ad 2), .ref (ad 5), .ref (ad 13), .ref (ad 25), .ref (ad 27), .ref (ad 1), .int ov_room_toldCount])), (ad 5, .inr (2, [.ref (ad 6), .ref (ad 7), .ref (ad 8), .ref (ad 9), .ref (ad 10), .ref (ad 11), .ref (ad 12), .int ov_items_mustSet, .int v_items_count]))]) (ws' := [(ad 0, .inr (0, [.ref (ad 2), .ref (ad 5), .ref (ad 13), .ref (ad 25), .ref (ad 27), .ref (ad 1), .int ov_room_toldCount])), (ad 5, .inr (2, [.ref (ad 6), .ref (ad 7), .ref (ad 8), .ref (ad 9), .ref (ad 10), .ref (ad 11), .ref (ad 12), .int ov_items_mustSet, .int v_items_count])), (ad 49, .inl (ki 1, 1, .inr (.inl vo)))]) (wc := [(ad 0, .inr (0, [.ref (ad 2), .ref (ad 5), .ref (ad 13), .ref (ad 25), .ref (ad 27), .ref (ad 1), .int v_room_toldCount])), (ad 5, .inr (2, [.ref (ad 6), .ref (ad 7), .ref (ad 8), .ref (ad 9), .ref (ad 10), .ref (ad 11), .ref (ad 12), .int v_items_mustSet, .int v_items_count]))]) ⟨hx, hb, hml, hown, hts⟩ (c_RoomFills_must l hl9 D ad ki v_room_toldCount v_items_mustSet v_items_count p1 p2 N s.heap.size 3 r ov_room_toldCount ov_items_mustSet hf) (cwV 2 hts (q_goodV ⟨m_759, m_760, m_761, m_54⟩ m_762) rfl rfl rfl (by decide +kernel) ⟨Nat.le_of_ble_eq_true rfl, Nat.le_of_ble_eq_true rfl⟩) (q_preVMX3 hE hZ hK hP hD hS hA (by decide +kernel) hC 0 0 rfl rfl) rfl hl.1 rfl (lv_room (Nat.le_of_ble_eq_true rfl)) d_Law_must_5 ⟨Nat.le_of_ble_eq_true rfl, Nat.le_of_ble_eq_true rfl⟩ hP hD hS hA hC [ad 0, ad 5, ad 49] rfl rfl (fun H1 h1 hk => (q_c (h1 0 _ rfl) (q_c (h1 1 _ rfl) (q_c (hk 2 _ rfl (by decide)) q_n)))) rfl ?_ ?_
  · intro h0
    exact absurd h0 (by decide)
  · intro _ q H ce g1 g2 g3 hP hS
    obtain ⟨x0, hsp, hx0⟩ := q_tab1 htab
    have e1_0 : x0.startPc = 0 := congrArg (fun z => z.1) hx0
    have e2_0 : x0.endPc = 17 := congrArg (fun z => z.2.1) hx0
    have e3_0 : x0.handlerPc = 20 := congrArg (fun z => z.2.2.1) hx0
    have e4_0 : x0.catchType = 28 := congrArg (fun z => z.2.2.2) hx0
    have hpass : ∀ z ∈ ([] : List ExceptionTableEntry), z.catchType ≠ 0 ∧ ∃ nm : String, (Cond.classLink R_Law z.catchType nm).before ([.ref (ad 0), .int p1, .int (bI p2), .ref (ad 49)] : List Value).toArray s = true ∧ va_Nc "java/lang/IndexOutOfBoundsException" nm s := by
      intro z hz
      cases hz
    have hcw : Cond.castable "java/lang/IndexOutOfBoundsException" "java/lang/IndexOutOfBoundsException" ∈ q_NW := by decide
    refine q_catch (E := "java/lang/IndexOutOfBoundsException") (name := "java/lang/IndexOutOfBoundsException") hown [] x0 [] hsp hpass (by simp [covers, e1_0, e2_0]) (by rw [e4_0]; decide) (by rw [e4_0]; exact hts (.classLink R_Law 28 "java/lang/IndexOutOfBoundsException") (List.mem_cons_of_mem _ m_696)) (va_Nw.use (q_NW_ok _ hcw) (hE.1 _ hcw)) g1 g2 g3 ?_
    rw [e3_0]
    refine lv_astore (lv' := ((4, .ref q) :: [(0, .ref (ad 0)), (1, .int p1), (2, .int (bI p2)), (3, .ref (ad 49))])) hx hb d_Law_must_20 hl (by decide) rfl (fun ls hl => ?_)
    refine lv_iconst (v := 1) hx hb d_Law_must_22 (by decide) ?_
    exact W.widen (Nat.le_of_ble_eq_true rfl) (Nat.le_of_ble_eq_true rfl) (W.iret (v := 1) hx hb hr (fun t ht hW => ⟨rfl, by rw [ht]; exact hP, hS.F ht⟩) hS.2.2 d_Law_must_23)
