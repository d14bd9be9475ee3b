def f_Fillers_setRange (N : Nat) (v_fill_least : Int32) (v_fill_most : Int32) (p1 : Int32) (p2 : Int32) : Option (Bool × Int32 × Int32) := (if v_fill_least = p1 then (if v_fill_most = p2 then (some (false, p1, p2)) else (some (true, p1, p2))) else (some (true, p1, p2)))
set_option maxRecDepth 100000 in
set_option maxHeartbeats 4000000 in
theorem c_Fillers_setRange (l : Launch) (D : va_G) (ad : Nat → Nat) (ki : Nat → ClassId) (v_fill_least : Int32) (v_fill_most : Int32) (p1 : Int32) (p2 : Int32) (N : Nat) (sz : Nat) (r : Bool) (ov_fill_least : Int32) (ov_fill_most : Int32) (hf : f_Fillers_setRange N v_fill_least v_fill_most p1 p2 = some (r, ov_fill_least, ov_fill_most)) : Met l y_Fillers_setRange w_Fillers_setRange { frames := 0, cells := 0, slots := 0, locals := 0 } (q_PcM [.ref (ad 13), .int p1, .int p2] D vwCl [(ad 13, .inr (3, [.int v_fill_least, .int v_fill_most]))] (TYS ki) sz) (q_Qm (some (.int (bI r))) D vwCl [(ad 13, .inr (3, [.int ov_fill_least, .int ov_fill_most]))] (va_A [(ad 13, .inr (3, [.int v_fill_least, .int v_fill_most]))] sz)) 0 0 (va_A [(ad 13, .inr (3, [.int v_fill_least, .int v_fill_most]))] sz) := by
  refine Met.ofW (cc := b_Fillers_setRange) (maxL := 4) (ret := (some .boolean)) (by decide) rfl ?_
  intro p e s m args below meth c s₁ B hml hv
  obtain ⟨rfl, hsz, hP, hK, hD0, hE⟩ := hv
  have hx := B.exec
  have hb := B.bytes
  have hr := B.returns
  have hts := atoms_spec (ws := w_Fillers_setRange) B.pre
  have hown : s.vm.findClass R_Fillers = some m.cls := findClass_of_methodNamed B.named
  have hlocks := B.notSynchronized
  have hn_Fillers : ∀ w ∈ u_ws R_Fillers F_Fillers 2, w ∈ w_Fillers_setRange := (fun w h => List.mem_cons_of_mem _ (i_Fillers w h))
  have hL7 := hts (.fieldLink R_Fillers 7 "RoomFills$Fillers" "least" "I") (List.mem_cons_of_mem _ m_169)
  have hL13 := hts (.fieldLink R_Fillers 13 "RoomFills$Fillers" "most" "I") (List.mem_cons_of_mem _ m_172)
  subst hsz
  have hD := hD0.self (sz := s.heap.size)
  generalize hAe : va_A [(ad 13, .inr (3, [.int v_fill_least, .int v_fill_most]))] s.heap.size = A at hD ⊢
  have hA : ∀ q : Nat, s.heap.size ≤ q → A q := fun q h => by rw [← hAe]; exact Or.inr h
  have hS : va_S A s.heap s.heap [] := va_S.rf
  replace hP : va_P D vwCl [(ad 13, .inr (3, [.int v_fill_least, .int v_fill_most]))] s.heap := hP
  have hl := lv_entry ([.ref (ad 13), .int p1, .int p2]) (n := 4) (Nat.le_of_ble_eq_true rfl)
  rw [lg_entry_eq]
  generalize (lg_sl ([.ref (ad 13), .int p1, .int p2]) ++ List.replicate (4 - (lg_sl ([.ref (ad 13), .int p1, .int p2])).length) Slot.unset).toArray = ls at hl ⊢
  replace hl : lv_has ls 4 [(0, .ref (ad 13)), (1, .int p1), (2, .int p2)] := hl
  unfold f_Fillers_setRange at hf
  refine lv_aload_n hx hb d_Fillers_setRange_0 rfl (lv_at hl 0 rfl) ?_
  refine va_get (D := D) (ci := 3) (v := .int v_fill_least) (C := R_Fillers) (T := F_Fillers) (N := 2) hx hb hts hn_Fillers hown hK hP 0 rfl rfl 0 (by decide) hL7 (fun _ h9 => h9) rfl d_Fillers_setRange_1 ?_
  refine lv_iload_n hx hb d_Fillers_setRange_4 rfl (lv_at hl 1 rfl) ?_
  refine lv_icmp_ne (tgt := 16) hx hb d_Fillers_setRange_5 (by decide) (fun c_1 => ?_) (fun c_1 => ?_)
  · replace hf := q_ie hf c_1
    refine lv_iconst (v := 1) hx hb d_Fillers_setRange_16 (by decide) ?_
    refine lv_goto (tgt := 21) hx hb d_Fillers_setRange_17 (by decide) ?_
    refine lv_istore_n (lv' := [(3, .int (bI true)), (0, .ref (ad 13)), (1, .int p1), (2, .int p2)]) hx hb d_Fillers_setRange_21 rfl hl (by decide) rfl (fun ls hl => ?_)
    refine lv_aload_n hx hb d_Fillers_setRange_22 rfl (lv_at hl 1 rfl) ?_
    refine lv_iload_n hx hb d_Fillers_setRange_23 rfl (lv_at hl 2 rfl) ?_
    refine va_put (D := D) (ci := 3) (v := .int p1) (ty := .int) (C := R_Fillers) (T := F_Fillers) (N := 2) hx hb hts hn_Fillers t_Fillers t_Fillers_ok n_Fillers hown hK hP hD hS 0 rfl rfl 0 (by decide) hL7 (fun _ h9 => h9) rfl (by decide +kernel) rfl rfl (Nat.le_of_ble_eq_true rfl) d_Fillers_setRange_24 (fun H locs hP hD hS => ?_)
    replace hP : va_P D vwCl [(ad 13, .inr (3, [.int p1, .int v_fill_most]))] H := hP
    replace hD : va_D A [(ad 13, .inr (3, [.int p1, .int v_fill_most]))] := hD
    refine lv_aload_n hx hb d_Fillers_setRange_27 rfl (lv_at hl 1 rfl) ?_
    refine lv_iload_n hx hb d_Fillers_setRange_28 rfl (lv_at hl 3 rfl) ?_
    refine va_put (D := D) (ci := 3) (v := .int p2) (ty := .int) (C := R_Fillers) (T := F_Fillers) (N := 2) hx hb hts hn_Fillers t_Fillers t_Fillers_ok n_Fillers hown hK hP hD hS 0 rfl rfl 1 (by decide) hL13 (fun _ h9 => h9) rfl (by decide +kernel) rfl rfl (Nat.le_of_ble_eq_true rfl) d_Fillers_setRange_29 (fun H locs hP hD hS => ?_)
    replace hP : va_P D vwCl [(ad 13, .inr (3, [.int p1, .int p2]))] H := hP
    replace hD : va_D A [(ad 13, .inr (3, [.int p1, .int p2]))] := hD
    refine lv_iload_n hx hb d_Fillers_setRange_32 rfl (lv_at hl 0 rfl) ?_
    cases hf
    exact W.zret (v := bI true) hx hb hr (bI_nar _) (fun t ht hW => ⟨rfl, by rw [ht]; exact hP, hS.F ht⟩) hS.2.2 d_Fillers_setRange_33
  replace hf := q_it hf c_1
  refine lv_aload_n hx hb d_Fillers_setRange_8 rfl (lv_at hl 0 rfl) ?_
  refine va_get (D := D) (ci := 3) (v := .int v_fill_most) (C := R_Fillers) (T := F_Fillers) (N := 2) hx hb hts hn_Fillers hown hK hP 0 rfl rfl 1 (by decide) hL13 (fun _ h9 => h9) rfl d_Fillers_setRange_9 ?_
  refine lv_iload_n hx hb d_Fillers_setRange_12 rfl (lv_at hl 2 rfl) ?_
  refine lv_icmp_eq (tgt := 20) hx hb d_Fillers_setRange_13 (by decide) (fun c_2 => ?_) (fun c_2 => ?_)
  · replace hf := q_it hf c_2
    refine lv_iconst (v := 0) hx hb d_Fillers_setRange_20 (by decide) ?_
    refine lv_istore_n (lv' := [(3, .int (bI false)), (0, .ref (ad 13)), (1, .int p1), (2, .int p2)]) hx hb d_Fillers_setRange_21 rfl hl (by decide) rfl (fun ls hl => ?_)
    refine lv_aload_n hx hb d_Fillers_setRange_22 rfl (lv_at hl 1 rfl) ?_
    refine lv_iload_n hx hb d_Fillers_setRange_23 rfl (lv_at hl 2 rfl) ?_
    refine va_put (D := D) (ci := 3) (v := .int p1) (ty := .int) (C := R_Fillers) (T := F_Fillers) (N := 2) hx hb hts hn_Fillers t_Fillers t_Fillers_ok n_Fillers hown hK hP hD hS 0 rfl rfl 0 (by decide) hL7 (fun _ h9 => h9) rfl (by decide +kernel) rfl rfl (Nat.le_of_ble_eq_true rfl) d_Fillers_setRange_24 (fun H locs hP hD hS => ?_)
    replace hP : va_P D vwCl [(ad 13, .inr (3, [.int p1, .int v_fill_most]))] H := hP
    replace hD : va_D A [(ad 13, .inr (3, [.int p1, .int v_fill_most]))] := hD
    refine lv_aload_n hx hb d_Fillers_setRange_27 rfl (lv_at hl 1 rfl) ?_
    refine lv_iload_n hx hb d_Fillers_setRange_28 rfl (lv_at hl 3 rfl) ?_
    refine va_put (D := D) (ci := 3) (v := .int p2) (ty := .int) (C := R_Fillers) (T := F_Fillers) (N := 2) hx hb hts hn_Fillers t_Fillers t_Fillers_ok n_Fillers hown hK hP hD hS 0 rfl rfl 1 (by decide) hL13 (fun _ h9 => h9) rfl (by decide +kernel) rfl rfl (Nat.le_of_ble_eq_true rfl) d_Fillers_setRange_29 (fun H locs hP hD hS => ?_)
    replace hP : va_P D vwCl [(ad 13, .inr (3, [.int p1, .int p2]))] H := hP
    replace hD : va_D A [(ad 13, .inr (3, [.int p1, .int p2]))] := hD
    refine lv_iload_n hx hb d_Fillers_setRange_32 rfl (lv_at hl 0 rfl) ?_
    cases hf
    exact W.zret (v := bI false) hx hb hr (bI_nar _) (fun t ht hW => ⟨rfl, by rw [ht]; exact hP, hS.F ht⟩) hS.2.2 d_Fillers_setRange_33
  replace hf := q_ie hf c_2
  refine lv_iconst (v := 1) hx hb d_Fillers_setRange_16 (by decide) ?_
  refine lv_goto (tgt := 21) hx hb d_Fillers_setRange_17 (by decide) ?_
  refine lv_istore_n (lv' := [(3, .int (bI true)), (0, .ref (ad 13)), (1, .int p1), (2, .int p2)]) hx hb d_Fillers_setRange_21 rfl hl (by decide) rfl (fun ls hl => ?_)
  refine lv_aload_n hx hb d_Fillers_setRange_22 rfl (lv_at hl 1 rfl) ?_
  refine lv_iload_n hx hb d_Fillers_setRange_23 rfl (lv_at hl 2 rfl) ?_
  refine va_put (D := D) (ci := 3) (v := .int p1) (ty := .int) (C := R_Fillers) (T := F_Fillers) (N := 2) hx hb hts hn_Fillers t_Fillers t_Fillers_ok n_Fillers hown hK hP hD hS 0 rfl rfl 0 (by decide) hL7 (fun _ h9 => h9) rfl (by decide +kernel) rfl rfl (Nat.le_of_ble_eq_true rfl) d_Fillers_setRange_24 (fun H locs hP hD hS => ?_)
  replace hP : va_P D vwCl [(ad 13, .inr (3, [.int p1, .int v_fill_most]))] H := hP
  replace hD : va_D A [(ad 13, .inr (3, [.int p1, .int v_fill_most]))] := hD
  refine lv_aload_n hx hb d_Fillers_setRange_27 rfl (lv_at hl 1 rfl) ?_
  refine lv_iload_n hx hb d_Fillers_setRange_28 rfl (lv_at hl 3 rfl) ?_
  refine va_put (D := D) (ci := 3) (v := .int p2) (ty := .int) (C := R_Fillers) (T := F_Fillers) (N := 2) hx hb hts hn_Fillers t_Fillers t_Fillers_ok n_Fillers hown hK hP hD hS 0 rfl rfl 1 (by decide) hL13 (fun _ h9 => h9) rfl (by decide +kernel) rfl rfl (Nat.le_of_ble_eq_true rfl) d_Fillers_setRange_29 (fun H locs hP hD hS => ?_)
  replace hP : va_P D vwCl [(ad 13, .inr (3, [.int p1, .int p2]))] H := hP
  replace hD : va_D A [(ad 13, .inr (3, [.int p1, .int p2]))] := hD
  refine lv_iload_n hx hb d_Fillers_setRange_32 rfl (lv_at hl 0 rfl) ?_
  cases hf
  exact W.zret (v := bI true) hx hb hr (bI_nar _) (fun t ht hW => ⟨rfl, by rw [ht]; exact hP, hS.F ht⟩) hS.2.2 d_Fillers_setRange_33
def f_Fillers_isWidth (N : Nat) (v_fill_least : Int32) (v_fill_most : Int32) (p1 : Int32) : Option (Bool) := (if p1 < v_fill_least then (some false) else (if v_fill_most < p1 then (some false) else (some true)))
set_option maxRecDepth 100000 in
set_option maxHeartbeats 4000000 in
theorem c_Fillers_isWidth (l : Launch) (D : va_G) (ad : Nat → Nat) (ki : Nat → ClassId) (v_fill_least : Int32) (v_fill_most : Int32) (p1 : Int32) (N : Nat) (r : Bool) (hf : f_Fillers_isWidth N v_fill_least v_fill_most p1 = some r) : Met l y_Fillers_isWidth w_Fillers_isWidth { frames := 0, cells := 0, slots := 0, locals := 0 } (q_PcP [.ref (ad 13), .int p1] D vwCl [(ad 13, .inr (3, [.int v_fill_least, .int v_fill_most]))] (TYS ki)) (k2_QcV (.int (bI r))) 0 0 (fun _ => False) := by
  refine Met.ofW (cc := b_Fillers_isWidth) (maxL := 2) (ret := (some .boolean)) (by decide) rfl ?_
  intro p e s m args below meth c s₁ B hml hv
  obtain ⟨rfl, hP, hK, hE⟩ := hv
  have hx := B.exec
  have hb := B.bytes
  have hr := B.returns
  have hts := atoms_spec (ws := w_Fillers_isWidth) B.pre
  have hown : s.vm.findClass R_Fillers = some m.cls := findClass_of_methodNamed B.named
  have hlocks := B.notSynchronized
  have hn_Fillers : ∀ w ∈ u_ws R_Fillers F_Fillers 2, w ∈ w_Fillers_isWidth := (fun w h => List.mem_cons_of_mem _ (i_Fillers w h))
  have hL7 := hts (.fieldLink R_Fillers 7 "RoomFills$Fillers" "least" "I") (List.mem_cons_of_mem _ m_169)
  have hL13 := hts (.fieldLink R_Fillers 13 "RoomFills$Fillers" "most" "I") (List.mem_cons_of_mem _ m_172)
  replace hP : va_P D vwCl [(ad 13, .inr (3, [.int v_fill_least, .int v_fill_most]))] s.heap := hP
  have hl := lv_entry ([.ref (ad 13), .int p1]) (n := 2) (Nat.le_of_ble_eq_true rfl)
  rw [lg_entry_eq]
  generalize (lg_sl ([.ref (ad 13), .int p1]) ++ List.replicate (2 - (lg_sl ([.ref (ad 13), .int p1])).length) Slot.unset).toArray = ls at hl ⊢
  replace hl : lv_has ls 2 [(0, .ref (ad 13)), (1, .int p1)] := hl
  unfold f_Fillers_isWidth at hf
  refine lv_iload_n hx hb d_Fillers_isWidth_0 rfl (lv_at hl 1 rfl) ?_
  refine lv_aload_n hx hb d_Fillers_isWidth_1 rfl (lv_at hl 0 rfl) ?_
  refine va_get (D := D) (ci := 3) (v := .int v_fill_least) (C := R_Fillers) (T := F_Fillers) (N := 2) hx hb hts hn_Fillers hown hK hP 0 rfl rfl 0 (by decide) hL7 (fun _ h9 => h9) rfl d_Fillers_isWidth_2 ?_
  refine lv_icmp_lt (tgt := 20) hx hb d_Fillers_isWidth_5 (by decide) (fun c_1 => ?_) (fun c_1 => ?_)
  · replace hf := q_it hf c_1
    refine lv_iconst (v := 0) hx hb d_Fillers_isWidth_20 (by decide) ?_
    cases hf
    exact W.zret (v := bI false) hx hb hr (bI_nar _) (fun t ht hW => ⟨rfl, ht⟩) (fun q h => nomatch h) d_Fillers_isWidth_21
  replace hf := q_ie hf c_1
  refine lv_iload_n hx hb d_Fillers_isWidth_8 rfl (lv_at hl 1 rfl) ?_
  refine lv_aload_n hx hb d_Fillers_isWidth_9 rfl (lv_at hl 0 rfl) ?_
  refine va_get (D := D) (ci := 3) (v := .int v_fill_most) (C := R_Fillers) (T := F_Fillers) (N := 2) hx hb hts hn_Fillers hown hK hP 0 rfl rfl 1 (by decide) hL13 (fun _ h9 => h9) rfl d_Fillers_isWidth_10 ?_
  refine lv_icmp_gt (tgt := 20) hx hb d_Fillers_isWidth_13 (by decide) (fun c_2 => ?_) (fun c_2 => ?_)
  · replace hf := q_it hf c_2
    refine lv_iconst (v := 0) hx hb d_Fillers_isWidth_20 (by decide) ?_
    cases hf
    exact W.zret (v := bI false) hx hb hr (bI_nar _) (fun t ht hW => ⟨rfl, ht⟩) (fun q h => nomatch h) d_Fillers_isWidth_21
  replace hf := q_ie hf c_2
  refine lv_iconst (v := 1) hx hb d_Fillers_isWidth_16 (by decide) ?_
  refine lv_goto (tgt := 21) hx hb d_Fillers_isWidth_17 (by decide) ?_
  cases hf
  exact W.zret (v := bI true) hx hb hr (bI_nar _) (fun t ht hW => ⟨rfl, ht⟩) (fun q h => nomatch h) d_Fillers_isWidth_21
