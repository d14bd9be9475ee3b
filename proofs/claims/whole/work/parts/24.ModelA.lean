def f_Model_isPut (N : Nat) (n_mput : Nat) (v_mod_code : Int32) (v_mod_steps : Int32) (v_mod_pipes : Int32) (v_mod_items : Int32) (v_mod_least : Int32) (v_mod_most : Int32) (v_mod_hasPlan : Bool) (v_mod_told : Int32) (v_mod_pieces : Int32) (v_mod_planWorth : Int64) (v_mod_planCents : Int64) (v_mput : Nat → Int32) (p1 : Int32) : Option (Bool) := (if p1 < 0 ∨ n_mput ≤ Int32.toNatClampNeg p1 then none else (if (v_mput (Int32.toNatClampNeg p1)) = ((-101) : Int32) then (some false) else (some true)))
set_option maxRecDepth 100000 in
set_option maxHeartbeats 4000000 in
theorem c_Model_isPut (l : Launch) (D : va_G) (ad : Nat → Nat) (ki : Nat → ClassId) (n_mput : Nat) (v_mod_code : Int32) (v_mod_steps : Int32) (v_mod_pipes : Int32) (v_mod_items : Int32) (v_mod_least : Int32) (v_mod_most : Int32) (v_mod_hasPlan : Bool) (v_mod_told : Int32) (v_mod_pieces : Int32) (v_mod_planWorth : Int64) (v_mod_planCents : Int64) (v_mput : Nat → Int32) (p1 : Int32) (N : Nat) (r : Bool) (hf : f_Model_isPut N n_mput v_mod_code v_mod_steps v_mod_pipes v_mod_items v_mod_least v_mod_most v_mod_hasPlan v_mod_told v_mod_pieces v_mod_planWorth v_mod_planCents v_mput p1 = some r) : Met l y_Model_isPut w_Model_isPut { frames := 0, cells := 0, slots := 0, locals := 0 } (q_PcP [.ref (ad 29), .int p1] D vwCl [(ad 29, .inr (8, [.int v_mod_code, .int v_mod_steps, .ref (ad 30), .int v_mod_pipes, .ref (ad 31), .int v_mod_items, .ref (ad 32), .ref (ad 33), .ref (ad 34), .ref (ad 35), .ref (ad 36), .ref (ad 37), .ref (ad 38), .int v_mod_least, .int v_mod_most, .ref (ad 39), .ref (ad 40), .ref (ad 41), .ref (ad 42), .ref (ad 43), .ref (ad 44), .int (bI v_mod_hasPlan), .int v_mod_told, .ref (ad 45), .int v_mod_pieces, .ref (ad 46), .ref (ad 47), .ref (ad 48), .long v_mod_planWorth, .long v_mod_planCents])), (ad 39, .inl (ki 0, n_mput, .inl v_mput))] (TYS ki)) (k2_QcV (.int (bI r))) 0 0 (fun _ => False) := by
  refine Met.ofW (cc := b_Model_isPut) (maxL := 2) (ret := (some .boolean)) (by decide) rfl ?_
  intro p e s m args below meth c s₁ B hml hv
  obtain ⟨rfl, hP, hK, hE⟩ := hv
  have hx := B.exec
  have hb := B.bytes
  have hr := B.returns
  have hts := atoms_spec (ws := w_Model_isPut) B.pre
  have hown : s.vm.findClass R_Model = some m.cls := findClass_of_methodNamed B.named
  have hlocks := B.notSynchronized
  have hn_Model : ∀ w ∈ u_ws R_Model F_Model 30, w ∈ w_Model_isPut := (fun w h => List.mem_cons_of_mem _ (i_Model w h))
  have hL39 := hts (.fieldLink R_Model 39 "RoomFillsModel" "put" "[I") (List.mem_cons_of_mem _ m_858)
  replace hP : va_P D vwCl [(ad 29, .inr (8, [.int v_mod_code, .int v_mod_steps, .ref (ad 30), .int v_mod_pipes, .ref (ad 31), .int v_mod_items, .ref (ad 32), .ref (ad 33), .ref (ad 34), .ref (ad 35), .ref (ad 36), .ref (ad 37), .ref (ad 38), .int v_mod_least, .int v_mod_most, .ref (ad 39), .ref (ad 40), .ref (ad 41), .ref (ad 42), .ref (ad 43), .ref (ad 44), .int (bI v_mod_hasPlan), .int v_mod_told, .ref (ad 45), .int v_mod_pieces, .ref (ad 46), .ref (ad 47), .ref (ad 48), .long v_mod_planWorth, .long v_mod_planCents])), (ad 39, .inl (ki 0, n_mput, .inl v_mput))] s.heap := hP
  have hl := lv_entry ([.ref (ad 29), .int p1]) (n := 2) (Nat.le_of_ble_eq_true rfl)
  rw [lg_entry_eq]
  generalize (lg_sl ([.ref (ad 29), .int p1]) ++ List.replicate (2 - (lg_sl ([.ref (ad 29), .int p1])).length) Slot.unset).toArray = ls at hl ⊢
  replace hl : lv_has ls 2 [(0, .ref (ad 29)), (1, .int p1)] := hl
  unfold f_Model_isPut at hf
  refine lv_aload_n hx hb d_Model_isPut_0 rfl (lv_at hl 0 rfl) ?_
  refine va_get (D := D) (ci := 8) (v := .ref (ad 39)) (C := R_Model) (T := F_Model) (N := 30) hx hb hts hn_Model hown hK hP 0 rfl rfl 15 (by decide) hL39 (fun _ h9 => h9) rfl d_Model_isPut_1 ?_
  refine lv_iload_n hx hb d_Model_isPut_4 rfl (lv_at hl 1 rfl) ?_
  obtain ⟨hi_1, hf⟩ := q_ck hf
  refine va_iald hx hb hK hP 1 0 rfl rfl hi_1 d_Model_isPut_5 ?_
  refine lv_bipush (v := (-101)) hx hb d_Model_isPut_6 (by decide) ?_
  refine lv_icmp_eq (tgt := 15) hx hb d_Model_isPut_8 (by decide) (fun c_2 => ?_) (fun c_2 => ?_)
  · replace hf := q_it hf c_2
    refine lv_iconst (v := 0) hx hb d_Model_isPut_15 (by decide) ?_
    cases hf
    exact W.zret (v := bI false) hx hb hr (bI_nar _) (fun t ht hW => ⟨rfl, ht⟩) (fun q h => nomatch h) d_Model_isPut_16
  replace hf := q_ie hf c_2
  refine lv_iconst (v := 1) hx hb d_Model_isPut_11 (by decide) ?_
  refine lv_goto (tgt := 16) hx hb d_Model_isPut_12 (by decide) ?_
  cases hf
  exact W.zret (v := bI true) hx hb hr (bI_nar _) (fun t ht hW => ⟨rfl, ht⟩) (fun q h => nomatch h) d_Model_isPut_16
def f_Model_touch (N : Nat) (n_mwid : Nat) (n_mput : Nat) (v_mod_code : Int32) (v_mod_steps : Int32) (v_mod_pipes : Int32) (v_mod_items : Int32) (v_mod_least : Int32) (v_mod_most : Int32) (v_mod_hasPlan : Bool) (v_mod_told : Int32) (v_mod_pieces : Int32) (v_mod_planWorth : Int64) (v_mod_planCents : Int64) (v_mwid : Nat → Int32) (v_mput : Nat → Int32) (p1 : Int32) (p2 : Int32) : Option (Bool) := (Option.bind (f_Model_isPut N n_mput v_mod_code v_mod_steps v_mod_pipes v_mod_items v_mod_least v_mod_most v_mod_hasPlan v_mod_told v_mod_pieces v_mod_planWorth v_mod_planCents v_mput p1) (fun r_1 => (if r_1 = true then (Option.bind (f_Model_isPut N n_mput v_mod_code v_mod_steps v_mod_pipes v_mod_items v_mod_least v_mod_most v_mod_hasPlan v_mod_told v_mod_pieces v_mod_planWorth v_mod_planCents v_mput p2) (fun r_3 => (if r_3 = true then (if p1 < 0 ∨ n_mput ≤ Int32.toNatClampNeg p1 then none else (if p1 < 0 ∨ n_mwid ≤ Int32.toNatClampNeg p1 then none else (if p2 < 0 ∨ n_mput ≤ Int32.toNatClampNeg p2 then none else (if ((v_mput (Int32.toNatClampNeg p1)) + (v_mwid (Int32.toNatClampNeg p1))) = (v_mput (Int32.toNatClampNeg p2)) then (some true) else (if p2 < 0 ∨ n_mput ≤ Int32.toNatClampNeg p2 then none else (if p2 < 0 ∨ n_mwid ≤ Int32.toNatClampNeg p2 then none else (if p1 < 0 ∨ n_mput ≤ Int32.toNatClampNeg p1 then none else (if ((v_mput (Int32.toNatClampNeg p2)) + (v_mwid (Int32.toNatClampNeg p2))) = (v_mput (Int32.toNatClampNeg p1)) then (some true) else (some false))))))))) else (some false)))) else (some false))))
set_option maxRecDepth 100000 in
set_option maxHeartbeats 4000000 in
theorem c_Model_touch (l : Launch) (D : va_G) (ad : Nat → Nat) (ki : Nat → ClassId) (n_mwid : Nat) (n_mput : Nat) (v_mod_code : Int32) (v_mod_steps : Int32) (v_mod_pipes : Int32) (v_mod_items : Int32) (v_mod_least : Int32) (v_mod_most : Int32) (v_mod_hasPlan : Bool) (v_mod_told : Int32) (v_mod_pieces : Int32) (v_mod_planWorth : Int64) (v_mod_planCents : Int64) (v_mwid : Nat → Int32) (v_mput : Nat → Int32) (p1 : Int32) (p2 : Int32) (N : Nat) (r : Bool) (hf : f_Model_touch N n_mwid n_mput v_mod_code v_mod_steps v_mod_pipes v_mod_items v_mod_least v_mod_most v_mod_hasPlan v_mod_told v_mod_pieces v_mod_planWorth v_mod_planCents v_mwid v_mput p1 p2 = some r) : Met l y_Model_touch w_Model_touch { frames := 1, cells := 0, slots := 0, locals := 21 } (q_PcP [.ref (ad 29), .int p1, .int p2] D vwCl [(ad 29, .inr (8, [.int v_mod_code, .int v_mod_steps, .ref (ad 30), .int v_mod_pipes, .ref (ad 31), .int v_mod_items, .ref (ad 32), .ref (ad 33), .ref (ad 34), .ref (ad 35), .ref (ad 36), .ref (ad 37), .ref (ad 38), .int v_mod_least, .int v_mod_most, .ref (ad 39), .ref (ad 40), .ref (ad 41), .ref (ad 42), .ref (ad 43), .ref (ad 44), .int (bI v_mod_hasPlan), .int v_mod_told, .ref (ad 45), .int v_mod_pieces, .ref (ad 46), .ref (ad 47), .ref (ad 48), .long v_mod_planWorth, .long v_mod_planCents])), (ad 32, .inl (ki 0, n_mwid, .inl v_mwid)), (ad 39, .inl (ki 0, n_mput, .inl v_mput))] (TYS ki)) (k2_QcV (.int (bI r))) 0 0 (fun _ => False) := by
  refine Met.ofW (cc := b_Model_touch) (maxL := 3) (ret := (some .boolean)) (by decide) rfl ?_
  intro p e s m args below meth c s₁ B hml hv
  obtain ⟨rfl, hP, hK, hE⟩ := hv
  have hx := B.exec
  have hb := B.bytes
  have hr := B.returns
  have hts := atoms_spec (ws := w_Model_touch) B.pre
  have hown : s.vm.findClass R_Model = some m.cls := findClass_of_methodNamed B.named
  have hlocks := B.notSynchronized
  have hn_Model : ∀ w ∈ u_ws R_Model F_Model 30, w ∈ w_Model_touch := (fun w h => List.mem_cons_of_mem _ (i_Model w h))
  have hL17 := hts (.fieldLink R_Model 17 "RoomFillsModel" "widths" "[I") (List.mem_cons_of_mem _ m_849)
  have hL39 := hts (.fieldLink R_Model 39 "RoomFillsModel" "put" "[I") (List.mem_cons_of_mem _ m_858)
  replace hP : va_P D vwCl [(ad 29, .inr (8, [.int v_mod_code, .int v_mod_steps, .ref (ad 30), .int v_mod_pipes, .ref (ad 31), .int v_mod_items, .ref (ad 32), .ref (ad 33), .ref (ad 34), .ref (ad 35), .ref (ad 36), .ref (ad 37), .ref (ad 38), .int v_mod_least, .int v_mod_most, .ref (ad 39), .ref (ad 40), .ref (ad 41), .ref (ad 42), .ref (ad 43), .ref (ad 44), .int (bI v_mod_hasPlan), .int v_mod_told, .ref (ad 45), .int v_mod_pieces, .ref (ad 46), .ref (ad 47), .ref (ad 48), .long v_mod_planWorth, .long v_mod_planCents])), (ad 32, .inl (ki 0, n_mwid, .inl v_mwid)), (ad 39, .inl (ki 0, n_mput, .inl v_mput))] s.heap := hP
  have hl := lv_entry ([.ref (ad 29), .int p1, .int p2]) (n := 3) (Nat.le_of_ble_eq_true rfl)
  rw [lg_entry_eq]
  generalize (lg_sl ([.ref (ad 29), .int p1, .int p2]) ++ List.replicate (3 - (lg_sl ([.ref (ad 29), .int p1, .int p2])).length) Slot.unset).toArray = ls at hl ⊢
  replace hl : lv_has ls 3 [(0, .ref (ad 29)), (1, .int p1), (2, .int p2)] := hl
  unfold f_Model_touch at hf
  refine lv_aload_n hx hb d_Model_touch_0 rfl (lv_at hl 0 rfl) ?_
  refine lv_iload_n hx hb d_Model_touch_1 rfl (lv_at hl 1 rfl) ?_
  obtain ⟨r_1, hc_1, hf⟩ := q_mb hf
  refine q_pcall (W.runV (As := [.int p1]) (rest := []) ⟨hx, hb, hml, hown, hts⟩ (c_Model_isPut l D ad ki n_mput v_mod_code v_mod_steps v_mod_pipes v_mod_items v_mod_least v_mod_most v_mod_hasPlan v_mod_told v_mod_pieces v_mod_planWorth v_mod_planCents v_mput p1 N r_1 hc_1) (cwV 1 hts (q_goodV ⟨m_1099, m_1101, m_51, m_64⟩ m_1102) rfl rfl rfl (by decide +kernel) ⟨Nat.le_of_ble_eq_true rfl, Nat.le_of_ble_eq_true rfl⟩) (q_preVP (wc := [(ad 29, .inr (8, [.int v_mod_code, .int v_mod_steps, .ref (ad 30), .int v_mod_pipes, .ref (ad 31), .int v_mod_items, .ref (ad 32), .ref (ad 33), .ref (ad 34), .ref (ad 35), .ref (ad 36), .ref (ad 37), .ref (ad 38), .int v_mod_least, .int v_mod_most, .ref (ad 39), .ref (ad 40), .ref (ad 41), .ref (ad 42), .ref (ad 43), .ref (ad 44), .int (bI v_mod_hasPlan), .int v_mod_told, .ref (ad 45), .int v_mod_pieces, .ref (ad 46), .ref (ad 47), .ref (ad 48), .long v_mod_planWorth, .long v_mod_planCents])), (ad 39, .inl (ki 0, n_mput, .inl v_mput))]) hE hK hP [0, 2] rfl 0 8 rfl rfl) rfl rfl hl.1 rfl (lv_room (Nat.le_of_ble_eq_true rfl)) d_Model_touch_2 ⟨Nat.le_of_ble_eq_true rfl, Nat.le_of_ble_eq_true rfl⟩) ?_
  refine zv_eq (tgt := 64) hx hb d_Model_touch_5 (by decide) (fun c_2 => ?_) (fun c_2 => ?_)
  · replace hf := q_ie hf c_2
    refine lv_iconst (v := 0) hx hb d_Model_touch_64 (by decide) ?_
    cases hf
    exact W.zret (v := bI false) hx hb hr (bI_nar _) (fun t ht hW => ⟨rfl, ht⟩) (fun q h => nomatch h) d_Model_touch_65
  replace hf := q_it hf c_2
  refine lv_aload_n hx hb d_Model_touch_8 rfl (lv_at hl 0 rfl) ?_
  refine lv_iload_n hx hb d_Model_touch_9 rfl (lv_at hl 2 rfl) ?_
  obtain ⟨r_3, hc_3, hf⟩ := q_mb hf
  refine q_pcall (W.runV (As := [.int p2]) (rest := []) ⟨hx, hb, hml, hown, hts⟩ (c_Model_isPut l D ad ki n_mput v_mod_code v_mod_steps v_mod_pipes v_mod_items v_mod_least v_mod_most v_mod_hasPlan v_mod_told v_mod_pieces v_mod_planWorth v_mod_planCents v_mput p2 N r_3 hc_3) (cwV 1 hts (q_goodV ⟨m_1099, m_1101, m_51, m_64⟩ m_1102) rfl rfl rfl (by decide +kernel) ⟨Nat.le_of_ble_eq_true rfl, Nat.le_of_ble_eq_true rfl⟩) (q_preVP (wc := [(ad 29, .inr (8, [.int v_mod_code, .int v_mod_steps, .ref (ad 30), .int v_mod_pipes, .ref (ad 31), .int v_mod_items, .ref (ad 32), .ref (ad 33), .ref (ad 34), .ref (ad 35), .ref (ad 36), .ref (ad 37), .ref (ad 38), .int v_mod_least, .int v_mod_most, .ref (ad 39), .ref (ad 40), .ref (ad 41), .ref (ad 42), .ref (ad 43), .ref (ad 44), .int (bI v_mod_hasPlan), .int v_mod_told, .ref (ad 45), .int v_mod_pieces, .ref (ad 46), .ref (ad 47), .ref (ad 48), .long v_mod_planWorth, .long v_mod_planCents])), (ad 39, .inl (ki 0, n_mput, .inl v_mput))]) hE hK hP [0, 2] rfl 0 8 rfl rfl) rfl rfl hl.1 rfl (lv_room (Nat.le_of_ble_eq_true rfl)) d_Model_touch_10 ⟨Nat.le_of_ble_eq_true rfl, Nat.le_of_ble_eq_true rfl⟩) ?_
  refine zv_eq (tgt := 64) hx hb d_Model_touch_13 (by decide) (fun c_4 => ?_) (fun c_4 => ?_)
  · replace hf := q_ie hf c_4
    refine lv_iconst (v := 0) hx hb d_Model_touch_64 (by decide) ?_
    cases hf
    exact W.zret (v := bI false) hx hb hr (bI_nar _) (fun t ht hW => ⟨rfl, ht⟩) (fun q h => nomatch h) d_Model_touch_65
  replace hf := q_it hf c_4
  refine lv_aload_n hx hb d_Model_touch_16 rfl (lv_at hl 0 rfl) ?_
  refine va_get (D := D) (ci := 8) (v := .ref (ad 39)) (C := R_Model) (T := F_Model) (N := 30) hx hb hts hn_Model hown hK hP 0 rfl rfl 15 (by decide) hL39 (fun _ h9 => h9) rfl d_Model_touch_17 ?_
  refine lv_iload_n hx hb d_Model_touch_20 rfl (lv_at hl 1 rfl) ?_
  obtain ⟨hi_5, hf⟩ := q_ck hf
  refine va_iald hx hb hK hP 2 0 rfl rfl hi_5 d_Model_touch_21 ?_
  refine lv_aload_n hx hb d_Model_touch_22 rfl (lv_at hl 0 rfl) ?_
  refine va_get (D := D) (ci := 8) (v := .ref (ad 32)) (C := R_Model) (T := F_Model) (N := 30) hx hb hts hn_Model hown hK hP 0 rfl rfl 6 (by decide) hL17 (fun _ h9 => h9) rfl d_Model_touch_23 ?_
  refine lv_iload_n hx hb d_Model_touch_26 rfl (lv_at hl 1 rfl) ?_
  obtain ⟨hi_6, hf⟩ := q_ck hf
  refine va_iald hx hb hK hP 1 0 rfl rfl hi_6 d_Model_touch_27 ?_
  refine lv_iadd hx hb d_Model_touch_28 ?_
  refine lv_aload_n hx hb d_Model_touch_29 rfl (lv_at hl 0 rfl) ?_
  refine va_get (D := D) (ci := 8) (v := .ref (ad 39)) (C := R_Model) (T := F_Model) (N := 30) hx hb hts hn_Model hown hK hP 0 rfl rfl 15 (by decide) hL39 (fun _ h9 => h9) rfl d_Model_touch_30 ?_
  refine lv_iload_n hx hb d_Model_touch_33 rfl (lv_at hl 2 rfl) ?_
  obtain ⟨hi_7, hf⟩ := q_ck hf
  refine va_iald hx hb hK hP 2 0 rfl rfl hi_7 d_Model_touch_34 ?_
  refine lv_icmp_eq (tgt := 60) hx hb d_Model_touch_35 (by decide) (fun c_8 => ?_) (fun c_8 => ?_)
  · replace hf := q_it hf c_8
    refine lv_iconst (v := 1) hx hb d_Model_touch_60 (by decide) ?_
    refine lv_goto (tgt := 65) hx hb d_Model_touch_61 (by decide) ?_
    cases hf
    exact W.zret (v := bI true) hx hb hr (bI_nar _) (fun t ht hW => ⟨rfl, ht⟩) (fun q h => nomatch h) d_Model_touch_65
  replace hf := q_ie hf c_8
  refine lv_aload_n hx hb d_Model_touch_38 rfl (lv_at hl 0 rfl) ?_
  refine va_get (D := D) (ci := 8) (v := .ref (ad 39)) (C := R_Model) (T := F_Model) (N := 30) hx hb hts hn_Model hown hK hP 0 rfl rfl 15 (by decide) hL39 (fun _ h9 => h9) rfl d_Model_touch_39 ?_
  refine lv_iload_n hx hb d_Model_touch_42 rfl (lv_at hl 2 rfl) ?_
  obtain ⟨hi_9, hf⟩ := q_ck hf
  refine va_iald hx hb hK hP 2 0 rfl rfl hi_9 d_Model_touch_43 ?_
  refine lv_aload_n hx hb d_Model_touch_44 rfl (lv_at hl 0 rfl) ?_
  refine va_get (D := D) (ci := 8) (v := .ref (ad 32)) (C := R_Model) (T := F_Model) (N := 30) hx hb hts hn_Model hown hK hP 0 rfl rfl 6 (by decide) hL17 (fun _ h9 => h9) rfl d_Model_touch_45 ?_
  refine lv_iload_n hx hb d_Model_touch_48 rfl (lv_at hl 2 rfl) ?_
  obtain ⟨hi_10, hf⟩ := q_ck hf
  refine va_iald hx hb hK hP 1 0 rfl rfl hi_10 d_Model_touch_49 ?_
  refine lv_iadd hx hb d_Model_touch_50 ?_
  refine lv_aload_n hx hb d_Model_touch_51 rfl (lv_at hl 0 rfl) ?_
  refine va_get (D := D) (ci := 8) (v := .ref (ad 39)) (C := R_Model) (T := F_Model) (N := 30) hx hb hts hn_Model hown hK hP 0 rfl rfl 15 (by decide) hL39 (fun _ h9 => h9) rfl d_Model_touch_52 ?_
  refine lv_iload_n hx hb d_Model_touch_55 rfl (lv_at hl 1 rfl) ?_
  obtain ⟨hi_11, hf⟩ := q_ck hf
  refine va_iald hx hb hK hP 2 0 rfl rfl hi_11 d_Model_touch_56 ?_
  refine lv_icmp_ne (tgt := 64) hx hb d_Model_touch_57 (by decide) (fun c_12 => ?_) (fun c_12 => ?_)
  · replace hf := q_ie hf c_12
    refine lv_iconst (v := 0) hx hb d_Model_touch_64 (by decide) ?_
    cases hf
    exact W.zret (v := bI false) hx hb hr (bI_nar _) (fun t ht hW => ⟨rfl, ht⟩) (fun q h => nomatch h) d_Model_touch_65
  replace hf := q_it hf c_12
  refine lv_iconst (v := 1) hx hb d_Model_touch_60 (by decide) ?_
  refine lv_goto (tgt := 65) hx hb d_Model_touch_61 (by decide) ?_
  cases hf
  exact W.zret (v := bI true) hx hb hr (bI_nar _) (fun t ht hW => ⟨rfl, ht⟩) (fun q h => nomatch h) d_Model_touch_65
def f_Model_covers (N : Nat) (n_mwid : Nat) (n_mput : Nat) (v_mod_code : Int32) (v_mod_steps : Int32) (v_mod_pipes : Int32) (v_mod_items : Int32) (v_mod_least : Int32) (v_mod_most : Int32) (v_mod_hasPlan : Bool) (v_mod_told : Int32) (v_mod_pieces : Int32) (v_mod_planWorth : Int64) (v_mod_planCents : Int64) (v_mwid : Nat → Int32) (v_mput : Nat → Int32) (p1 : Int32) (p2 : Int32) : Option (Bool) := (Option.bind (f_Model_isPut N n_mput v_mod_code v_mod_steps v_mod_pipes v_mod_items v_mod_least v_mod_most v_mod_hasPlan v_mod_told v_mod_pieces v_mod_planWorth v_mod_planCents v_mput p1) (fun r_1 => (if r_1 = true then (if p1 < 0 ∨ n_mput ≤ Int32.toNatClampNeg p1 then none else (if p2 < (v_mput (Int32.toNatClampNeg p1)) then (some false) else (if p1 < 0 ∨ n_mput ≤ Int32.toNatClampNeg p1 then none else (if p1 < 0 ∨ n_mwid ≤ Int32.toNatClampNeg p1 then none else (if ((v_mput (Int32.toNatClampNeg p1)) + (v_mwid (Int32.toNatClampNeg p1))) ≤ p2 then (some false) else (some true)))))) else (some false))))
set_option maxRecDepth 100000 in
set_option maxHeartbeats 4000000 in
theorem c_Model_covers (l : Launch) (D : va_G) (ad : Nat → Nat) (ki : Nat → ClassId) (n_mwid : Nat) (n_mput : Nat) (v_mod_code : Int32) (v_mod_steps : Int32) (v_mod_pipes : Int32) (v_mod_items : Int32) (v_mod_least : Int32) (v_mod_most : Int32) (v_mod_hasPlan : Bool) (v_mod_told : Int32) (v_mod_pieces : Int32) (v_mod_planWorth : Int64) (v_mod_planCents : Int64) (v_mwid : Nat → Int32) (v_mput : Nat → Int32) (p1 : Int32) (p2 : Int32) (N : Nat) (r : Bool) (hf : f_Model_covers N n_mwid n_mput v_mod_code v_mod_steps v_mod_pipes v_mod_items v_mod_least v_mod_most v_mod_hasPlan v_mod_told v_mod_pieces v_mod_planWorth v_mod_planCents v_mwid v_mput p1 p2 = some r) : Met l y_Model_covers w_Model_covers { frames := 1, cells := 0, slots := 0, locals := 21 } (q_PcP [.ref (ad 29), .int p1, .int p2] D vwCl [(ad 29, .inr (8, [.int v_mod_code, .int v_mod_steps, .ref (ad 30), .int v_mod_pipes, .ref (ad 31), .int v_mod_items, .ref (ad 32), .ref (ad 33), .ref (ad 34), .ref (ad 35), .ref (ad 36), .ref (ad 37), .ref (ad 38), .int v_mod_least, .int v_mod_most, .ref (ad 39), .ref (ad 40), .ref (ad 41), .ref (ad 42), .ref (ad 43), .ref (ad 44), .int (bI v_mod_hasPlan), .int v_mod_told, .ref (ad 45), .int v_mod_pieces, .ref (ad 46), .ref (ad 47), .ref (ad 48), .long v_mod_planWorth, .long v_mod_planCents])), (ad 32, .inl (ki 0, n_mwid, .inl v_mwid)), (ad 39, .inl (ki 0, n_mput, .inl v_mput))] (TYS ki)) (k2_QcV (.int (bI r))) 0 0 (fun _ => False) := by
  refine Met.ofW (cc := b_Model_covers) (maxL := 3) (ret := (some .boolean)) (by decide) rfl ?_
  intro p e s m args below meth c s₁ B hml hv
  obtain ⟨rfl, hP, hK, hE⟩ := hv
  have hx := B.exec
  have hb := B.bytes
  have hr := B.returns
  have hts := atoms_spec (ws := w_Model_covers) B.pre
  have hown : s.vm.findClass R_Model = some m.cls := findClass_of_methodNamed B.named
  have hlocks := B.notSynchronized
  have hn_Model : ∀ w ∈ u_ws R_Model F_Model 30, w ∈ w_Model_covers := (fun w h => List.mem_cons_of_mem _ (i_Model w h))
  have hL17 := hts (.fieldLink R_Model 17 "RoomFillsModel" "widths" "[I") (List.mem_cons_of_mem _ m_849)
  have hL39 := hts (.fieldLink R_Model 39 "RoomFillsModel" "put" "[I") (List.mem_cons_of_mem _ m_858)
  replace hP : va_P D vwCl [(ad 29, .inr (8, [.int v_mod_code, .int v_mod_steps, .ref (ad 30), .int v_mod_pipes, .ref (ad 31), .int v_mod_items, .ref (ad 32), .ref (ad 33), .ref (ad 34), .ref (ad 35), .ref (ad 36), .ref (ad 37), .ref (ad 38), .int v_mod_least, .int v_mod_most, .ref (ad 39), .ref (ad 40), .ref (ad 41), .ref (ad 42), .ref (ad 43), .ref (ad 44), .int (bI v_mod_hasPlan), .int v_mod_told, .ref (ad 45), .int v_mod_pieces, .ref (ad 46), .ref (ad 47), .ref (ad 48), .long v_mod_planWorth, .long v_mod_planCents])), (ad 32, .inl (ki 0, n_mwid, .inl v_mwid)), (ad 39, .inl (ki 0, n_mput, .inl v_mput))] s.heap := hP
  have hl := lv_entry ([.ref (ad 29), .int p1, .int p2]) (n := 3) (Nat.le_of_ble_eq_true rfl)
  rw [lg_entry_eq]
  generalize (lg_sl ([.ref (ad 29), .int p1, .int p2]) ++ List.replicate (3 - (lg_sl ([.ref (ad 29), .int p1, .int p2])).length) Slot.unset).toArray = ls at hl ⊢
  replace hl : lv_has ls 3 [(0, .ref (ad 29)), (1, .int p1), (2, .int p2)] := hl
  unfold f_Model_covers at hf
  refine lv_aload_n hx hb d_Model_covers_0 rfl (lv_at hl 0 rfl) ?_
  refine lv_iload_n hx hb d_Model_covers_1 rfl (lv_at hl 1 rfl) ?_
  obtain ⟨r_1, hc_1, hf⟩ := q_mb hf
  refine q_pcall (W.runV (As := [.int p1]) (rest := []) ⟨hx, hb, hml, hown, hts⟩ (c_Model_isPut l D ad ki n_mput v_mod_code v_mod_steps v_mod_pipes v_mod_items v_mod_least v_mod_most v_mod_hasPlan v_mod_told v_mod_pieces v_mod_planWorth v_mod_planCents v_mput p1 N r_1 hc_1) (cwV 1 hts (q_goodV ⟨m_1099, m_1101, m_51, m_64⟩ m_1102) rfl rfl rfl (by decide +kernel) ⟨Nat.le_of_ble_eq_true rfl, Nat.le_of_ble_eq_true rfl⟩) (q_preVP (wc := [(ad 29, .inr (8, [.int v_mod_code, .int v_mod_steps, .ref (ad 30), .int v_mod_pipes, .ref (ad 31), .int v_mod_items, .ref (ad 32), .ref (ad 33), .ref (ad 34), .ref (ad 35), .ref (ad 36), .ref (ad 37), .ref (ad 38), .int v_mod_least, .int v_mod_most, .ref (ad 39), .ref (ad 40), .ref (ad 41), .ref (ad 42), .ref (ad 43), .ref (ad 44), .int (bI v_mod_hasPlan), .int v_mod_told, .ref (ad 45), .int v_mod_pieces, .ref (ad 46), .ref (ad 47), .ref (ad 48), .long v_mod_planWorth, .long v_mod_planCents])), (ad 39, .inl (ki 0, n_mput, .inl v_mput))]) hE hK hP [0, 2] rfl 0 8 rfl rfl) rfl rfl hl.1 rfl (lv_room (Nat.le_of_ble_eq_true rfl)) d_Model_covers_2 ⟨Nat.le_of_ble_eq_true rfl, Nat.le_of_ble_eq_true rfl⟩) ?_
  refine zv_eq (tgt := 39) hx hb d_Model_covers_5 (by decide) (fun c_2 => ?_) (fun c_2 => ?_)
  · replace hf := q_ie hf c_2
    refine lv_iconst (v := 0) hx hb d_Model_covers_39 (by decide) ?_
    cases hf
    exact W.zret (v := bI false) hx hb hr (bI_nar _) (fun t ht hW => ⟨rfl, ht⟩) (fun q h => nomatch h) d_Model_covers_40
  replace hf := q_it hf c_2
  refine lv_iload_n hx hb d_Model_covers_8 rfl (lv_at hl 2 rfl) ?_
  refine lv_aload_n hx hb d_Model_covers_9 rfl (lv_at hl 0 rfl) ?_
  refine va_get (D := D) (ci := 8) (v := .ref (ad 39)) (C := R_Model) (T := F_Model) (N := 30) hx hb hts hn_Model hown hK hP 0 rfl rfl 15 (by decide) hL39 (fun _ h9 => h9) rfl d_Model_covers_10 ?_
  refine lv_iload_n hx hb d_Model_covers_13 rfl (lv_at hl 1 rfl) ?_
  obtain ⟨hi_3, hf⟩ := q_ck hf
  refine va_iald hx hb hK hP 2 0 rfl rfl hi_3 d_Model_covers_14 ?_
  refine lv_icmp_lt (tgt := 39) hx hb d_Model_covers_15 (by decide) (fun c_4 => ?_) (fun c_4 => ?_)
  · replace hf := q_it hf c_4
    refine lv_iconst (v := 0) hx hb d_Model_covers_39 (by decide) ?_
    cases hf
    exact W.zret (v := bI false) hx hb hr (bI_nar _) (fun t ht hW => ⟨rfl, ht⟩) (fun q h => nomatch h) d_Model_covers_40
  replace hf := q_ie hf c_4
  refine lv_iload_n hx hb d_Model_covers_18 rfl (lv_at hl 2 rfl) ?_
  refine lv_aload_n hx hb d_Model_covers_19 rfl (lv_at hl 0 rfl) ?_
  refine va_get (D := D) (ci := 8) (v := .ref (ad 39)) (C := R_Model) (T := F_Model) (N := 30) hx hb hts hn_Model hown hK hP 0 rfl rfl 15 (by decide) hL39 (fun _ h9 => h9) rfl d_Model_covers_20 ?_
  refine lv_iload_n hx hb d_Model_covers_23 rfl (lv_at hl 1 rfl) ?_
  obtain ⟨hi_5, hf⟩ := q_ck hf
  refine va_iald hx hb hK hP 2 0 rfl rfl hi_5 d_Model_covers_24 ?_
  refine lv_aload_n hx hb d_Model_covers_25 rfl (lv_at hl 0 rfl) ?_
  refine va_get (D := D) (ci := 8) (v := .ref (ad 32)) (C := R_Model) (T := F_Model) (N := 30) hx hb hts hn_Model hown hK hP 0 rfl rfl 6 (by decide) hL17 (fun _ h9 => h9) rfl d_Model_covers_26 ?_
  refine lv_iload_n hx hb d_Model_covers_29 rfl (lv_at hl 1 rfl) ?_
  obtain ⟨hi_6, hf⟩ := q_ck hf
  refine va_iald hx hb hK hP 1 0 rfl rfl hi_6 d_Model_covers_30 ?_
  refine lv_iadd hx hb d_Model_covers_31 ?_
  refine lv_icmp_ge (tgt := 39) hx hb d_Model_covers_32 (by decide) (fun c_7 => ?_) (fun c_7 => ?_)
  · replace hf := q_it hf c_7
    refine lv_iconst (v := 0) hx hb d_Model_covers_39 (by decide) ?_
    cases hf
    exact W.zret (v := bI false) hx hb hr (bI_nar _) (fun t ht hW => ⟨rfl, ht⟩) (fun q h => nomatch h) d_Model_covers_40
  replace hf := q_ie hf c_7
  refine lv_iconst (v := 1) hx hb d_Model_covers_35 (by decide) ?_
  refine lv_goto (tgt := 40) hx hb d_Model_covers_36 (by decide) ?_
  cases hf
  exact W.zret (v := bI true) hx hb hr (bI_nar _) (fun t ht hW => ⟨rfl, ht⟩) (fun q h => nomatch h) d_Model_covers_40
def f_Model_hasGap_cut (N : Nat) (n_mfree : Nat) (n_mwid : Nat) (n_mput : Nat) (v_mod_code : Int32) (v_mod_steps : Int32) (v_mod_pipes : Int32) (v_mod_items : Int32) (v_mod_least : Int32) (v_mod_most : Int32) (v_mod_hasPlan : Bool) (v_mod_told : Int32) (v_mod_pieces : Int32) (v_mod_planWorth : Int64) (v_mod_planCents : Int64) (v_mfree : Nat → Int32) (v_mwid : Nat → Int32) (v_mput : Nat → Int32) : Nat → Nat → Int32 → Bool → Int32 → Bool → Int32 → Option (Bool)
  | 0, _, _, _, _, _, _ => none
  | n + 1, t, x1, x2, x3, x4, x5 => if t = 0 then (if v_mod_steps < x3 then (some x2) else (if v_mod_steps ≤ x3 then (f_Model_hasGap_cut N n_mfree n_mwid n_mput v_mod_code v_mod_steps v_mod_pipes v_mod_items v_mod_least v_mod_most v_mod_hasPlan v_mod_told v_mod_pieces v_mod_planWorth v_mod_planCents v_mfree v_mwid v_mput n 1 x1 x2 x3 false 0) else (if x3 < 0 ∨ n_mfree ≤ Int32.toNatClampNeg x3 then none else (if (v_mfree (Int32.toNatClampNeg x3)) = 0 then (f_Model_hasGap_cut N n_mfree n_mwid n_mput v_mod_code v_mod_steps v_mod_pipes v_mod_items v_mod_least v_mod_most v_mod_hasPlan v_mod_told v_mod_pieces v_mod_planWorth v_mod_planCents v_mfree v_mwid v_mput n 1 x1 x2 x3 true 0) else (f_Model_hasGap_cut N n_mfree n_mwid n_mput v_mod_code v_mod_steps v_mod_pipes v_mod_items v_mod_least v_mod_most v_mod_hasPlan v_mod_told v_mod_pieces v_mod_planWorth v_mod_planCents v_mfree v_mwid v_mput n 1 x1 x2 x3 false 0))))) else (if v_mod_items ≤ x5 then (if x2 = true then (if x4 = true then (f_Model_hasGap_cut N n_mfree n_mwid n_mput v_mod_code v_mod_steps v_mod_pipes v_mod_items v_mod_least v_mod_most v_mod_hasPlan v_mod_told v_mod_pieces v_mod_planWorth v_mod_planCents v_mfree v_mwid v_mput n 0 (x1 + 1) true (x3 + 1) false 0) else (f_Model_hasGap_cut N n_mfree n_mwid n_mput v_mod_code v_mod_steps v_mod_pipes v_mod_items v_mod_least v_mod_most v_mod_hasPlan v_mod_told v_mod_pieces v_mod_planWorth v_mod_planCents v_mfree v_mwid v_mput n 0 0 true (x3 + 1) false 0)) else (if x4 = true then (if x4 = true then (f_Model_hasGap_cut N n_mfree n_mwid n_mput v_mod_code v_mod_steps v_mod_pipes v_mod_items v_mod_least v_mod_most v_mod_hasPlan v_mod_told v_mod_pieces v_mod_planWorth v_mod_planCents v_mfree v_mwid v_mput n 0 (x1 + 1) false (x3 + 1) false 0) else (f_Model_hasGap_cut N n_mfree n_mwid n_mput v_mod_code v_mod_steps v_mod_pipes v_mod_items v_mod_least v_mod_most v_mod_hasPlan v_mod_told v_mod_pieces v_mod_planWorth v_mod_planCents v_mfree v_mwid v_mput n 0 0 false (x3 + 1) false 0)) else (if x1 ≤ 0 then (if x4 = true then (f_Model_hasGap_cut N n_mfree n_mwid n_mput v_mod_code v_mod_steps v_mod_pipes v_mod_items v_mod_least v_mod_most v_mod_hasPlan v_mod_told v_mod_pieces v_mod_planWorth v_mod_planCents v_mfree v_mwid v_mput n 0 (x1 + 1) false (x3 + 1) false 0) else (f_Model_hasGap_cut N n_mfree n_mwid n_mput v_mod_code v_mod_steps v_mod_pipes v_mod_items v_mod_least v_mod_most v_mod_hasPlan v_mod_told v_mod_pieces v_mod_planWorth v_mod_planCents v_mfree v_mwid v_mput n 0 0 false (x3 + 1) false 0)) else (if x1 < v_mod_least then (if x4 = true then (f_Model_hasGap_cut N n_mfree n_mwid n_mput v_mod_code v_mod_steps v_mod_pipes v_mod_items v_mod_least v_mod_most v_mod_hasPlan v_mod_told v_mod_pieces v_mod_planWorth v_mod_planCents v_mfree v_mwid v_mput n 0 (x1 + 1) true (x3 + 1) false 0) else (f_Model_hasGap_cut N n_mfree n_mwid n_mput v_mod_code v_mod_steps v_mod_pipes v_mod_items v_mod_least v_mod_most v_mod_hasPlan v_mod_told v_mod_pieces v_mod_planWorth v_mod_planCents v_mfree v_mwid v_mput n 0 0 true (x3 + 1) false 0)) else (if x1 ≤ v_mod_most then (if x4 = true then (f_Model_hasGap_cut N n_mfree n_mwid n_mput v_mod_code v_mod_steps v_mod_pipes v_mod_items v_mod_least v_mod_most v_mod_hasPlan v_mod_told v_mod_pieces v_mod_planWorth v_mod_planCents v_mfree v_mwid v_mput n 0 (x1 + 1) false (x3 + 1) false 0) else (f_Model_hasGap_cut N n_mfree n_mwid n_mput v_mod_code v_mod_steps v_mod_pipes v_mod_items v_mod_least v_mod_most v_mod_hasPlan v_mod_told v_mod_pieces v_mod_planWorth v_mod_planCents v_mfree v_mwid v_mput n 0 0 false (x3 + 1) false 0)) else (if x4 = true then (f_Model_hasGap_cut N n_mfree n_mwid n_mput v_mod_code v_mod_steps v_mod_pipes v_mod_items v_mod_least v_mod_most v_mod_hasPlan v_mod_told v_mod_pieces v_mod_planWorth v_mod_planCents v_mfree v_mwid v_mput n 0 (x1 + 1) true (x3 + 1) false 0) else (f_Model_hasGap_cut N n_mfree n_mwid n_mput v_mod_code v_mod_steps v_mod_pipes v_mod_items v_mod_least v_mod_most v_mod_hasPlan v_mod_told v_mod_pieces v_mod_planWorth v_mod_planCents v_mfree v_mwid v_mput n 0 0 true (x3 + 1) false 0))))))) else (if x4 = true then (Option.bind (f_Model_covers N n_mwid n_mput v_mod_code v_mod_steps v_mod_pipes v_mod_items v_mod_least v_mod_most v_mod_hasPlan v_mod_told v_mod_pieces v_mod_planWorth v_mod_planCents v_mwid v_mput x5 x3) (fun r_18 => (if r_18 = true then (f_Model_hasGap_cut N n_mfree n_mwid n_mput v_mod_code v_mod_steps v_mod_pipes v_mod_items v_mod_least v_mod_most v_mod_hasPlan v_mod_told v_mod_pieces v_mod_planWorth v_mod_planCents v_mfree v_mwid v_mput n 1 x1 x2 x3 false (x5 + 1)) else (f_Model_hasGap_cut N n_mfree n_mwid n_mput v_mod_code v_mod_steps v_mod_pipes v_mod_items v_mod_least v_mod_most v_mod_hasPlan v_mod_told v_mod_pieces v_mod_planWorth v_mod_planCents v_mfree v_mwid v_mput n 1 x1 x2 x3 true (x5 + 1))))) else (f_Model_hasGap_cut N n_mfree n_mwid n_mput v_mod_code v_mod_steps v_mod_pipes v_mod_items v_mod_least v_mod_most v_mod_hasPlan v_mod_told v_mod_pieces v_mod_planWorth v_mod_planCents v_mfree v_mwid v_mput n 1 x1 x2 x3 false (x5 + 1))))
theorem f_Model_hasGap_cut_0 (N : Nat) (n_mfree : Nat) (n_mwid : Nat) (n_mput : Nat) (v_mod_code : Int32) (v_mod_steps : Int32) (v_mod_pipes : Int32) (v_mod_items : Int32) (v_mod_least : Int32) (v_mod_most : Int32) (v_mod_hasPlan : Bool) (v_mod_told : Int32) (v_mod_pieces : Int32) (v_mod_planWorth : Int64) (v_mod_planCents : Int64) (v_mfree : Nat → Int32) (v_mwid : Nat → Int32) (v_mput : Nat → Int32) (n : Nat) (x1 : Int32) (x2 : Bool) (x3 : Int32) (x4 : Bool) (x5 : Int32) : f_Model_hasGap_cut N n_mfree n_mwid n_mput v_mod_code v_mod_steps v_mod_pipes v_mod_items v_mod_least v_mod_most v_mod_hasPlan v_mod_told v_mod_pieces v_mod_planWorth v_mod_planCents v_mfree v_mwid v_mput (n + 1) 0 x1 x2 x3 x4 x5 = (if v_mod_steps < x3 then (some x2) else (if v_mod_steps ≤ x3 then (f_Model_hasGap_cut N n_mfree n_mwid n_mput v_mod_code v_mod_steps v_mod_pipes v_mod_items v_mod_least v_mod_most v_mod_hasPlan v_mod_told v_mod_pieces v_mod_planWorth v_mod_planCents v_mfree v_mwid v_mput n 1 x1 x2 x3 false 0) else (if x3 < 0 ∨ n_mfree ≤ Int32.toNatClampNeg x3 then none else (if (v_mfree (Int32.toNatClampNeg x3)) = 0 then (f_Model_hasGap_cut N n_mfree n_mwid n_mput v_mod_code v_mod_steps v_mod_pipes v_mod_items v_mod_least v_mod_most v_mod_hasPlan v_mod_told v_mod_pieces v_mod_planWorth v_mod_planCents v_mfree v_mwid v_mput n 1 x1 x2 x3 true 0) else (f_Model_hasGap_cut N n_mfree n_mwid n_mput v_mod_code v_mod_steps v_mod_pipes v_mod_items v_mod_least v_mod_most v_mod_hasPlan v_mod_told v_mod_pieces v_mod_planWorth v_mod_planCents v_mfree v_mwid v_mput n 1 x1 x2 x3 false 0))))) := by rw [f_Model_hasGap_cut, if_pos rfl]
theorem f_Model_hasGap_cut_1 (N : Nat) (n_mfree : Nat) (n_mwid : Nat) (n_mput : Nat) (v_mod_code : Int32) (v_mod_steps : Int32) (v_mod_pipes : Int32) (v_mod_items : Int32) (v_mod_least : Int32) (v_mod_most : Int32) (v_mod_hasPlan : Bool) (v_mod_told : Int32) (v_mod_pieces : Int32) (v_mod_planWorth : Int64) (v_mod_planCents : Int64) (v_mfree : Nat → Int32) (v_mwid : Nat → Int32) (v_mput : Nat → Int32) (n : Nat) (x1 : Int32) (x2 : Bool) (x3 : Int32) (x4 : Bool) (x5 : Int32) : f_Model_hasGap_cut N n_mfree n_mwid n_mput v_mod_code v_mod_steps v_mod_pipes v_mod_items v_mod_least v_mod_most v_mod_hasPlan v_mod_told v_mod_pieces v_mod_planWorth v_mod_planCents v_mfree v_mwid v_mput (n + 1) 1 x1 x2 x3 x4 x5 = (if v_mod_items ≤ x5 then (if x2 = true then (if x4 = true then (f_Model_hasGap_cut N n_mfree n_mwid n_mput v_mod_code v_mod_steps v_mod_pipes v_mod_items v_mod_least v_mod_most v_mod_hasPlan v_mod_told v_mod_pieces v_mod_planWorth v_mod_planCents v_mfree v_mwid v_mput n 0 (x1 + 1) true (x3 + 1) false 0) else (f_Model_hasGap_cut N n_mfree n_mwid n_mput v_mod_code v_mod_steps v_mod_pipes v_mod_items v_mod_least v_mod_most v_mod_hasPlan v_mod_told v_mod_pieces v_mod_planWorth v_mod_planCents v_mfree v_mwid v_mput n 0 0 true (x3 + 1) false 0)) else (if x4 = true then (if x4 = true then (f_Model_hasGap_cut N n_mfree n_mwid n_mput v_mod_code v_mod_steps v_mod_pipes v_mod_items v_mod_least v_mod_most v_mod_hasPlan v_mod_told v_mod_pieces v_mod_planWorth v_mod_planCents v_mfree v_mwid v_mput n 0 (x1 + 1) false (x3 + 1) false 0) else (f_Model_hasGap_cut N n_mfree n_mwid n_mput v_mod_code v_mod_steps v_mod_pipes v_mod_items v_mod_least v_mod_most v_mod_hasPlan v_mod_told v_mod_pieces v_mod_planWorth v_mod_planCents v_mfree v_mwid v_mput n 0 0 false (x3 + 1) false 0)) else (if x1 ≤ 0 then (if x4 = true then (f_Model_hasGap_cut N n_mfree n_mwid n_mput v_mod_code v_mod_steps v_mod_pipes v_mod_items v_mod_least v_mod_most v_mod_hasPlan v_mod_told v_mod_pieces v_mod_planWorth v_mod_planCents v_mfree v_mwid v_mput n 0 (x1 + 1) false (x3 + 1) false 0) else (f_Model_hasGap_cut N n_mfree n_mwid n_mput v_mod_code v_mod_steps v_mod_pipes v_mod_items v_mod_least v_mod_most v_mod_hasPlan v_mod_told v_mod_pieces v_mod_planWorth v_mod_planCents v_mfree v_mwid v_mput n 0 0 false (x3 + 1) false 0)) else (if x1 < v_mod_least then (if x4 = true then (f_Model_hasGap_cut N n_mfree n_mwid n_mput v_mod_code v_mod_steps v_mod_pipes v_mod_items v_mod_least v_mod_most v_mod_hasPlan v_mod_told v_mod_pieces v_mod_planWorth v_mod_planCents v_mfree v_mwid v_mput n 0 (x1 + 1) true (x3 + 1) false 0) else (f_Model_hasGap_cut N n_mfree n_mwid n_mput v_mod_code v_mod_steps v_mod_pipes v_mod_items v_mod_least v_mod_most v_mod_hasPlan v_mod_told v_mod_pieces v_mod_planWorth v_mod_planCents v_mfree v_mwid v_mput n 0 0 true (x3 + 1) false 0)) else (if x1 ≤ v_mod_most then (if x4 = true then (f_Model_hasGap_cut N n_mfree n_mwid n_mput v_mod_code v_mod_steps v_mod_pipes v_mod_items v_mod_least v_mod_most v_mod_hasPlan v_mod_told v_mod_pieces v_mod_planWorth v_mod_planCents v_mfree v_mwid v_mput n 0 (x1 + 1) false (x3 + 1) false 0) else (f_Model_hasGap_cut N n_mfree n_mwid n_mput v_mod_code v_mod_steps v_mod_pipes v_mod_items v_mod_least v_mod_most v_mod_hasPlan v_mod_told v_mod_pieces v_mod_planWorth v_mod_planCents v_mfree v_mwid v_mput n 0 0 false (x3 + 1) false 0)) else (if x4 = true then (f_Model_hasGap_cut N n_mfree n_mwid n_mput v_mod_code v_mod_steps v_mod_pipes v_mod_items v_mod_least v_mod_most v_mod_hasPlan v_mod_told v_mod_pieces v_mod_planWorth v_mod_planCents v_mfree v_mwid v_mput n 0 (x1 + 1) true (x3 + 1) false 0) else (f_Model_hasGap_cut N n_mfree n_mwid n_mput v_mod_code v_mod_steps v_mod_pipes v_mod_items v_mod_least v_mod_most v_mod_hasPlan v_mod_told v_mod_pieces v_mod_planWorth v_mod_planCents v_mfree v_mwid v_mput n 0 0 true (x3 + 1) false 0))))))) else (if x4 = true then (Option.bind (f_Model_covers N n_mwid n_mput v_mod_code v_mod_steps v_mod_pipes v_mod_items v_mod_least v_mod_most v_mod_hasPlan v_mod_told v_mod_pieces v_mod_planWorth v_mod_planCents v_mwid v_mput x5 x3) (fun r_18 => (if r_18 = true then (f_Model_hasGap_cut N n_mfree n_mwid n_mput v_mod_code v_mod_steps v_mod_pipes v_mod_items v_mod_least v_mod_most v_mod_hasPlan v_mod_told v_mod_pieces v_mod_planWorth v_mod_planCents v_mfree v_mwid v_mput n 1 x1 x2 x3 false (x5 + 1)) else (f_Model_hasGap_cut N n_mfree n_mwid n_mput v_mod_code v_mod_steps v_mod_pipes v_mod_items v_mod_least v_mod_most v_mod_hasPlan v_mod_told v_mod_pieces v_mod_planWorth v_mod_planCents v_mfree v_mwid v_mput n 1 x1 x2 x3 true (x5 + 1))))) else (f_Model_hasGap_cut N n_mfree n_mwid n_mput v_mod_code v_mod_steps v_mod_pipes v_mod_items v_mod_least v_mod_most v_mod_hasPlan v_mod_told v_mod_pieces v_mod_planWorth v_mod_planCents v_mfree v_mwid v_mput n 1 x1 x2 x3 false (x5 + 1)))) := by rw [f_Model_hasGap_cut, if_neg (by decide)]
def f_Model_hasGap (N : Nat) (n_mfree : Nat) (n_mwid : Nat) (n_mput : Nat) (v_mod_code : Int32) (v_mod_steps : Int32) (v_mod_pipes : Int32) (v_mod_items : Int32) (v_mod_least : Int32) (v_mod_most : Int32) (v_mod_hasPlan : Bool) (v_mod_told : Int32) (v_mod_pieces : Int32) (v_mod_planWorth : Int64) (v_mod_planCents : Int64) (v_mfree : Nat → Int32) (v_mwid : Nat → Int32) (v_mput : Nat → Int32)  : Option (Bool) := (f_Model_hasGap_cut N n_mfree n_mwid n_mput v_mod_code v_mod_steps v_mod_pipes v_mod_items v_mod_least v_mod_most v_mod_hasPlan v_mod_told v_mod_pieces v_mod_planWorth v_mod_planCents v_mfree v_mwid v_mput N 0 0 false 0 false 0)
set_option maxRecDepth 100000 in
set_option maxHeartbeats 4000000 in
theorem c_Model_hasGap (l : Launch) (D : va_G) (ad : Nat → Nat) (ki : Nat → ClassId) (n_mfree : Nat) (n_mwid : Nat) (n_mput : Nat) (v_mod_code : Int32) (v_mod_steps : Int32) (v_mod_pipes : Int32) (v_mod_items : Int32) (v_mod_least : Int32) (v_mod_most : Int32) (v_mod_hasPlan : Bool) (v_mod_told : Int32) (v_mod_pieces : Int32) (v_mod_planWorth : Int64) (v_mod_planCents : Int64) (v_mfree : Nat → Int32) (v_mwid : Nat → Int32) (v_mput : Nat → Int32)  (N : Nat) (r : Bool) (hf : f_Model_hasGap N n_mfree n_mwid n_mput v_mod_code v_mod_steps v_mod_pipes v_mod_items v_mod_least v_mod_most v_mod_hasPlan v_mod_told v_mod_pieces v_mod_planWorth v_mod_planCents v_mfree v_mwid v_mput = some r) : Met l y_Model_hasGap w_Model_hasGap { frames := 2, cells := 0, slots := 0, locals := 43 } (q_PcP [.ref (ad 29)] D vwCl [(ad 29, .inr (8, [.int v_mod_code, .int v_mod_steps, .ref (ad 30), .int v_mod_pipes, .ref (ad 31), .int v_mod_items, .ref (ad 32), .ref (ad 33), .ref (ad 34), .ref (ad 35), .ref (ad 36), .ref (ad 37), .ref (ad 38), .int v_mod_least, .int v_mod_most, .ref (ad 39), .ref (ad 40), .ref (ad 41), .ref (ad 42), .ref (ad 43), .ref (ad 44), .int (bI v_mod_hasPlan), .int v_mod_told, .ref (ad 45), .int v_mod_pieces, .ref (ad 46), .ref (ad 47), .ref (ad 48), .long v_mod_planWorth, .long v_mod_planCents])), (ad 30, .inl (ki 2, n_mfree, .inl v_mfree)), (ad 32, .inl (ki 0, n_mwid, .inl v_mwid)), (ad 39, .inl (ki 0, n_mput, .inl v_mput))] (TYS ki)) (k2_QcV (.int (bI r))) 0 0 (fun _ => False) := by
  refine Met.ofW (cc := b_Model_hasGap) (maxL := 6) (ret := (some .boolean)) (by decide) rfl ?_
  intro p e s m args below meth c s₁ B hml hv
  obtain ⟨rfl, hP, hK, hE⟩ := hv
  have hx := B.exec
  have hb := B.bytes
  have hr := B.returns
  have hts := atoms_spec (ws := w_Model_hasGap) B.pre
  have hown : s.vm.findClass R_Model = some m.cls := findClass_of_methodNamed B.named
  have hlocks := B.notSynchronized
  have hn_Model : ∀ w ∈ u_ws R_Model F_Model 30, w ∈ w_Model_hasGap := (fun w h => List.mem_cons_of_mem _ (i_Model w h))
  have hL7 := hts (.fieldLink R_Model 7 "RoomFillsModel" "free" "[Z") (List.mem_cons_of_mem _ m_845)
  have hL69 := hts (.fieldLink R_Model 69 "RoomFillsModel" "steps" "I") (List.mem_cons_of_mem _ m_844)
  have hL73 := hts (.fieldLink R_Model 73 "RoomFillsModel" "least" "I") (List.mem_cons_of_mem _ m_856)
  have hL97 := hts (.fieldLink R_Model 97 "RoomFillsModel" "items" "I") (List.mem_cons_of_mem _ m_848)
  have hL112 := hts (.fieldLink R_Model 112 "RoomFillsModel" "most" "I") (List.mem_cons_of_mem _ m_857)
  replace hP : va_P D vwCl [(ad 29, .inr (8, [.int v_mod_code, .int v_mod_steps, .ref (ad 30), .int v_mod_pipes, .ref (ad 31), .int v_mod_items, .ref (ad 32), .ref (ad 33), .ref (ad 34), .ref (ad 35), .ref (ad 36), .ref (ad 37), .ref (ad 38), .int v_mod_least, .int v_mod_most, .ref (ad 39), .ref (ad 40), .ref (ad 41), .ref (ad 42), .ref (ad 43), .ref (ad 44), .int (bI v_mod_hasPlan), .int v_mod_told, .ref (ad 45), .int v_mod_pieces, .ref (ad 46), .ref (ad 47), .ref (ad 48), .long v_mod_planWorth, .long v_mod_planCents])), (ad 30, .inl (ki 2, n_mfree, .inl v_mfree)), (ad 32, .inl (ki 0, n_mwid, .inl v_mwid)), (ad 39, .inl (ki 0, n_mput, .inl v_mput))] s.heap := hP
  have hl := lv_entry ([.ref (ad 29)]) (n := 6) (Nat.le_of_ble_eq_true rfl)
  rw [lg_entry_eq]
  generalize (lg_sl ([.ref (ad 29)]) ++ List.replicate (6 - (lg_sl ([.ref (ad 29)])).length) Slot.unset).toArray = ls at hl ⊢
  replace hl : lv_has ls 6 [(0, .ref (ad 29))] := hl
  have key : ∀ n : Nat, (∀ (x1 : Int32) (x2 : Bool) (x3 : Int32), f_Model_hasGap_cut N n_mfree n_mwid n_mput v_mod_code v_mod_steps v_mod_pipes v_mod_items v_mod_least v_mod_most v_mod_hasPlan v_mod_told v_mod_pieces v_mod_planWorth v_mod_planCents v_mfree v_mwid v_mput n 0 x1 x2 x3 false 0 = some r → ∀ (ls : Array Slot), lv_has ls 6 [(0, .ref (ad 29)), (1, .int x1), (2, .int (bI x2)), (3, .int x3)] → W p l e (headSpec w_Model_hasGap { frames := 2, cells := 0, slots := 0, locals := 43 }).room s m ([.ref (ad 29)] : List Value).toArray below meth c s.heap [] 0 0 (MQ below (k2_QcV (.int (bI r))) ([.ref (ad 29)] : List Value).toArray s 0 0 (fun _ => False)) (F0 m 6 ls [])) ∧ (∀ (x1 : Int32) (x2 : Bool) (x3 : Int32) (x4 : Bool) (x5 : Int32), f_Model_hasGap_cut N n_mfree n_mwid n_mput v_mod_code v_mod_steps v_mod_pipes v_mod_items v_mod_least v_mod_most v_mod_hasPlan v_mod_told v_mod_pieces v_mod_planWorth v_mod_planCents v_mfree v_mwid v_mput n 1 x1 x2 x3 x4 x5 = some r → ∀ (ls : Array Slot), lv_has ls 6 [(0, .ref (ad 29)), (1, .int x1), (2, .int (bI x2)), (3, .int x3), (4, .int (bI x4)), (5, .int x5)] → W p l e (headSpec w_Model_hasGap { frames := 2, cells := 0, slots := 0, locals := 43 }).room s m ([.ref (ad 29)] : List Value).toArray below meth c s.heap [] 0 0 (MQ below (k2_QcV (.int (bI r))) ([.ref (ad 29)] : List Value).toArray s 0 0 (fun _ => False)) (F0 m 41 ls [])) := by
    intro n
    induction n with
    | zero =>
      exact ⟨fun x1 x2 x3 hf => (nomatch (show none = some _ from hf)), fun x1 x2 x3 x4 x5 hf => (nomatch (show none = some _ from hf))⟩
    | succ n ih =>
      refine ⟨?_, ?_⟩
      · intro x1 x2 x3 hf ls hl
        rw [f_Model_hasGap_cut_0] at hf
        refine lv_iload_n hx hb d_Model_hasGap_6 rfl (lv_at hl 3 rfl) ?_
        refine lv_aload_n hx hb d_Model_hasGap_7 rfl (lv_at hl 0 rfl) ?_
        refine va_get (D := D) (ci := 8) (v := .int v_mod_steps) (C := R_Model) (T := F_Model) (N := 30) hx hb hts hn_Model hown hK hP 0 rfl rfl 1 (by decide) hL69 (fun _ h9 => h9) rfl d_Model_hasGap_8 ?_
        refine lv_icmp_gt (tgt := 132) hx hb d_Model_hasGap_11 (by decide) (fun c_1 => ?_) (fun c_1 => ?_)
        · replace hf := q_it hf c_1
          refine lv_iload_n hx hb d_Model_hasGap_132 rfl (lv_at hl 2 rfl) ?_
          cases hf
          first | exact W.zret (v := bI x2) hx hb hr (bI_nar _) (fun t ht hW => ⟨rfl, ht⟩) (fun q h => nomatch h) d_Model_hasGap_133 | exact W.zret (v := bI r) hx hb hr (bI_nar _) (fun t ht hW => ⟨rfl, ht⟩) (fun q h => nomatch h) d_Model_hasGap_133
        replace hf := q_ie hf c_1
        refine lv_iload_n hx hb d_Model_hasGap_14 rfl (lv_at hl 3 rfl) ?_
        refine lv_aload_n hx hb d_Model_hasGap_15 rfl (lv_at hl 0 rfl) ?_
        refine va_get (D := D) (ci := 8) (v := .int v_mod_steps) (C := R_Model) (T := F_Model) (N := 30) hx hb hts hn_Model hown hK hP 0 rfl rfl 1 (by decide) hL69 (fun _ h9 => h9) rfl d_Model_hasGap_16 ?_
        refine lv_icmp_ge (tgt := 35) hx hb d_Model_hasGap_19 (by decide) (fun c_2 => ?_) (fun c_2 => ?_)
        · replace hf := q_it hf c_2
          refine lv_iconst (v := 0) hx hb d_Model_hasGap_35 (by decide) ?_
          refine lv_istore (lv' := [(4, .int (bI false)), (0, .ref (ad 29)), (1, .int x1), (2, .int (bI x2)), (3, .int x3)]) hx hb d_Model_hasGap_36 hl (by decide) rfl (fun ls hl => ?_)
          refine lv_iconst (v := 0) hx hb d_Model_hasGap_38 (by decide) ?_
          refine lv_istore (lv' := [(5, .int 0), (4, .int (bI false)), (0, .ref (ad 29)), (1, .int x1), (2, .int (bI x2)), (3, .int x3)]) hx hb d_Model_hasGap_39 hl (by decide) rfl (fun ls hl => ?_)
          exact (ih).2 x1 x2 x3 false 0 hf ls (lv_sub hl [2, 3, 4, 5, 1, 0] rfl)
        replace hf := q_ie hf c_2
        refine lv_aload_n hx hb d_Model_hasGap_22 rfl (lv_at hl 0 rfl) ?_
        refine va_get (D := D) (ci := 8) (v := .ref (ad 30)) (C := R_Model) (T := F_Model) (N := 30) hx hb hts hn_Model hown hK hP 0 rfl rfl 2 (by decide) hL7 (fun _ h9 => h9) rfl d_Model_hasGap_23 ?_
        refine lv_iload_n hx hb d_Model_hasGap_26 rfl (lv_at hl 3 rfl) ?_
        obtain ⟨hi_3, hf⟩ := q_ck hf
        refine va_zald hx hb hK hP 1 2 rfl rfl hi_3 d_Model_hasGap_27 ?_
        refine lv_if_ne (tgt := 35) hx hb d_Model_hasGap_28 (by decide) (fun c_4 => ?_) (fun c_4 => ?_)
        · replace hf := q_ie hf c_4
          refine lv_iconst (v := 0) hx hb d_Model_hasGap_35 (by decide) ?_
          refine lv_istore (lv' := [(4, .int (bI false)), (0, .ref (ad 29)), (1, .int x1), (2, .int (bI x2)), (3, .int x3)]) hx hb d_Model_hasGap_36 hl (by decide) rfl (fun ls hl => ?_)
          refine lv_iconst (v := 0) hx hb d_Model_hasGap_38 (by decide) ?_
          refine lv_istore (lv' := [(5, .int 0), (4, .int (bI false)), (0, .ref (ad 29)), (1, .int x1), (2, .int (bI x2)), (3, .int x3)]) hx hb d_Model_hasGap_39 hl (by decide) rfl (fun ls hl => ?_)
          exact (ih).2 x1 x2 x3 false 0 hf ls (lv_sub hl [2, 3, 4, 5, 1, 0] rfl)
        replace hf := q_it hf c_4
        refine lv_iconst (v := 1) hx hb d_Model_hasGap_31 (by decide) ?_
        refine lv_goto (tgt := 36) hx hb d_Model_hasGap_32 (by decide) ?_
        refine lv_istore (lv' := [(4, .int (bI true)), (0, .ref (ad 29)), (1, .int x1), (2, .int (bI x2)), (3, .int x3)]) hx hb d_Model_hasGap_36 hl (by decide) rfl (fun ls hl => ?_)
        refine lv_iconst (v := 0) hx hb d_Model_hasGap_38 (by decide) ?_
        refine lv_istore (lv' := [(5, .int 0), (4, .int (bI true)), (0, .ref (ad 29)), (1, .int x1), (2, .int (bI x2)), (3, .int x3)]) hx hb d_Model_hasGap_39 hl (by decide) rfl (fun ls hl => ?_)
        exact (ih).2 x1 x2 x3 true 0 hf ls (lv_sub hl [2, 3, 4, 5, 1, 0] rfl)
      · intro x1 x2 x3 x4 x5 hf ls hl
        rw [f_Model_hasGap_cut_1] at hf
        refine lv_iload hx hb d_Model_hasGap_41 (lv_at hl 5 rfl) ?_
        refine lv_aload_n hx hb d_Model_hasGap_43 rfl (lv_at hl 0 rfl) ?_
        refine va_get (D := D) (ci := 8) (v := .int v_mod_items) (C := R_Model) (T := F_Model) (N := 30) hx hb hts hn_Model hown hK hP 0 rfl rfl 5 (by decide) hL97 (fun _ h9 => h9) rfl d_Model_hasGap_44 ?_
        refine lv_icmp_ge (tgt := 78) hx hb d_Model_hasGap_47 (by decide) (fun c_5 => ?_) (fun c_5 => ?_)
        · replace hf := q_it hf c_5
          refine lv_iload_n hx hb d_Model_hasGap_78 rfl (lv_at hl 2 rfl) ?_
          refine zv_ne (tgt := 107) hx hb d_Model_hasGap_79 (by decide) (fun c_6 => ?_) (fun c_6 => ?_)
          · replace hf := q_it hf c_6
            refine lv_iconst (v := 1) hx hb d_Model_hasGap_107 (by decide) ?_
            refine lv_goto (tgt := 112) hx hb d_Model_hasGap_108 (by decide) ?_
            refine lv_istore_n (lv' := [(2, .int (bI true)), (0, .ref (ad 29)), (1, .int x1), (3, .int x3), (4, .int (bI x4)), (5, .int x5)]) hx hb d_Model_hasGap_112 rfl hl (by decide) rfl (fun ls hl => ?_)
            refine lv_iload hx hb d_Model_hasGap_113 (lv_at hl 4 rfl) ?_
            refine zv_eq (tgt := 124) hx hb d_Model_hasGap_115 (by decide) (fun c_7 => ?_) (fun c_7 => ?_)
            · replace hf := q_ie hf c_7
              refine lv_iconst (v := 0) hx hb d_Model_hasGap_124 (by decide) ?_
              refine lv_istore_n (lv' := [(1, .int 0), (2, .int (bI true)), (0, .ref (ad 29)), (3, .int x3), (4, .int (bI x4)), (5, .int x5)]) hx hb d_Model_hasGap_125 rfl hl (by decide) rfl (fun ls hl => ?_)
              refine lv_iinc (v := (x3 + 1)) (lv' := [(3, .int (x3 + 1)), (1, .int 0), (2, .int (bI true)), (0, .ref (ad 29)), (4, .int (bI x4)), (5, .int x5)]) hx hb d_Model_hasGap_126 hl (k := 3) rfl rfl (by decide) rfl (fun ls hl => ?_)
              refine lv_goto (tgt := 6) hx hb d_Model_hasGap_129 (by decide) ?_
              exact (ih).1 0 true (x3 + 1) hf ls (lv_sub hl [3, 1, 2, 0] rfl)
            replace hf := q_it hf c_7
            refine lv_iload_n hx hb d_Model_hasGap_118 rfl (lv_at hl 2 rfl) ?_
            refine lv_iconst (v := 1) hx hb d_Model_hasGap_119 (by decide) ?_
            refine lv_iadd hx hb d_Model_hasGap_120 ?_
            refine lv_goto (tgt := 125) hx hb d_Model_hasGap_121 (by decide) ?_
            refine lv_istore_n (lv' := [(1, .int (x1 + 1)), (2, .int (bI true)), (0, .ref (ad 29)), (3, .int x3), (4, .int (bI x4)), (5, .int x5)]) hx hb d_Model_hasGap_125 rfl hl (by decide) rfl (fun ls hl => ?_)
            refine lv_iinc (v := (x3 + 1)) (lv' := [(3, .int (x3 + 1)), (1, .int (x1 + 1)), (2, .int (bI true)), (0, .ref (ad 29)), (4, .int (bI x4)), (5, .int x5)]) hx hb d_Model_hasGap_126 hl (k := 3) rfl rfl (by decide) rfl (fun ls hl => ?_)
            refine lv_goto (tgt := 6) hx hb d_Model_hasGap_129 (by decide) ?_
            exact (ih).1 (x1 + 1) true (x3 + 1) hf ls (lv_sub hl [3, 1, 2, 0] rfl)
          replace hf := q_ie hf c_6
          refine lv_iload hx hb d_Model_hasGap_82 (lv_at hl 4 rfl) ?_
          refine zv_ne (tgt := 111) hx hb d_Model_hasGap_84 (by decide) (fun c_8 => ?_) (fun c_8 => ?_)
          · replace hf := q_it hf c_8
            refine lv_iconst (v := 0) hx hb d_Model_hasGap_111 (by decide) ?_
            refine lv_istore_n (lv' := [(2, .int (bI false)), (0, .ref (ad 29)), (1, .int x1), (3, .int x3), (4, .int (bI x4)), (5, .int x5)]) hx hb d_Model_hasGap_112 rfl hl (by decide) rfl (fun ls hl => ?_)
            refine lv_iload hx hb d_Model_hasGap_113 (lv_at hl 4 rfl) ?_
            refine zv_eq (tgt := 124) hx hb d_Model_hasGap_115 (by decide) (fun c_9 => ?_) (fun c_9 => ?_)
            · replace hf := q_ie hf c_9
              refine lv_iconst (v := 0) hx hb d_Model_hasGap_124 (by decide) ?_
              refine lv_istore_n (lv' := [(1, .int 0), (2, .int (bI false)), (0, .ref (ad 29)), (3, .int x3), (4, .int (bI x4)), (5, .int x5)]) hx hb d_Model_hasGap_125 rfl hl (by decide) rfl (fun ls hl => ?_)
              refine lv_iinc (v := (x3 + 1)) (lv' := [(3, .int (x3 + 1)), (1, .int 0), (2, .int (bI false)), (0, .ref (ad 29)), (4, .int (bI x4)), (5, .int x5)]) hx hb d_Model_hasGap_126 hl (k := 3) rfl rfl (by decide) rfl (fun ls hl => ?_)
              refine lv_goto (tgt := 6) hx hb d_Model_hasGap_129 (by decide) ?_
              exact (ih).1 0 false (x3 + 1) hf ls (lv_sub hl [3, 1, 2, 0] rfl)
            replace hf := q_it hf c_9
            refine lv_iload_n hx hb d_Model_hasGap_118 rfl (lv_at hl 2 rfl) ?_
            refine lv_iconst (v := 1) hx hb d_Model_hasGap_119 (by decide) ?_
            refine lv_iadd hx hb d_Model_hasGap_120 ?_
            refine lv_goto (tgt := 125) hx hb d_Model_hasGap_121 (by decide) ?_
            refine lv_istore_n (lv' := [(1, .int (x1 + 1)), (2, .int (bI false)), (0, .ref (ad 29)), (3, .int x3), (4, .int (bI x4)), (5, .int x5)]) hx hb d_Model_hasGap_125 rfl hl (by decide) rfl (fun ls hl => ?_)
            refine lv_iinc (v := (x3 + 1)) (lv' := [(3, .int (x3 + 1)), (1, .int (x1 + 1)), (2, .int (bI false)), (0, .ref (ad 29)), (4, .int (bI x4)), (5, .int x5)]) hx hb d_Model_hasGap_126 hl (k := 3) rfl rfl (by decide) rfl (fun ls hl => ?_)
            refine lv_goto (tgt := 6) hx hb d_Model_hasGap_129 (by decide) ?_
            exact (ih).1 (x1 + 1) false (x3 + 1) hf ls (lv_sub hl [3, 1, 2, 0] rfl)
          replace hf := q_ie hf c_8
          refine lv_iload_n hx hb d_Model_hasGap_87 rfl (lv_at hl 1 rfl) ?_
          refine lv_if_le (tgt := 111) hx hb d_Model_hasGap_88 (by decide) (fun c_10 => ?_) (fun c_10 => ?_)
          · replace hf := q_it hf c_10
            refine lv_iconst (v := 0) hx hb d_Model_hasGap_111 (by decide) ?_
            refine lv_istore_n (lv' := [(2, .int (bI false)), (0, .ref (ad 29)), (1, .int x1), (3, .int x3), (4, .int (bI x4)), (5, .int x5)]) hx hb d_Model_hasGap_112 rfl hl (by decide) rfl (fun ls hl => ?_)
            refine lv_iload hx hb d_Model_hasGap_113 (lv_at hl 4 rfl) ?_
            refine zv_eq (tgt := 124) hx hb d_Model_hasGap_115 (by decide) (fun c_11 => ?_) (fun c_11 => ?_)
            · replace hf := q_ie hf c_11
              refine lv_iconst (v := 0) hx hb d_Model_hasGap_124 (by decide) ?_
              refine lv_istore_n (lv' := [(1, .int 0), (2, .int (bI false)), (0, .ref (ad 29)), (3, .int x3), (4, .int (bI x4)), (5, .int x5)]) hx hb d_Model_hasGap_125 rfl hl (by decide) rfl (fun ls hl => ?_)
              refine lv_iinc (v := (x3 + 1)) (lv' := [(3, .int (x3 + 1)), (1, .int 0), (2, .int (bI false)), (0, .ref (ad 29)), (4, .int (bI x4)), (5, .int x5)]) hx hb d_Model_hasGap_126 hl (k := 3) rfl rfl (by decide) rfl (fun ls hl => ?_)
              refine lv_goto (tgt := 6) hx hb d_Model_hasGap_129 (by decide) ?_
              exact (ih).1 0 false (x3 + 1) hf ls (lv_sub hl [3, 1, 2, 0] rfl)
            replace hf := q_it hf c_11
            refine lv_iload_n hx hb d_Model_hasGap_118 rfl (lv_at hl 2 rfl) ?_
            refine lv_iconst (v := 1) hx hb d_Model_hasGap_119 (by decide) ?_
            refine lv_iadd hx hb d_Model_hasGap_120 ?_
            refine lv_goto (tgt := 125) hx hb d_Model_hasGap_121 (by decide) ?_
            refine lv_istore_n (lv' := [(1, .int (x1 + 1)), (2, .int (bI false)), (0, .ref (ad 29)), (3, .int x3), (4, .int (bI x4)), (5, .int x5)]) hx hb d_Model_hasGap_125 rfl hl (by decide) rfl (fun ls hl => ?_)
            refine lv_iinc (v := (x3 + 1)) (lv' := [(3, .int (x3 + 1)), (1, .int (x1 + 1)), (2, .int (bI false)), (0, .ref (ad 29)), (4, .int (bI x4)), (5, .int x5)]) hx hb d_Model_hasGap_126 hl (k := 3) rfl rfl (by decide) rfl (fun ls hl => ?_)
            refine lv_goto (tgt := 6) hx hb d_Model_hasGap_129 (by decide) ?_
            exact (ih).1 (x1 + 1) false (x3 + 1) hf ls (lv_sub hl [3, 1, 2, 0] rfl)
          replace hf := q_ie hf c_10
          refine lv_iload_n hx hb d_Model_hasGap_91 rfl (lv_at hl 1 rfl) ?_
          refine lv_aload_n hx hb d_Model_hasGap_92 rfl (lv_at hl 0 rfl) ?_
          refine va_get (D := D) (ci := 8) (v := .int v_mod_least) (C := R_Model) (T := F_Model) (N := 30) hx hb hts hn_Model hown hK hP 0 rfl rfl 13 (by decide) hL73 (fun _ h9 => h9) rfl d_Model_hasGap_93 ?_
          refine lv_icmp_lt (tgt := 107) hx hb d_Model_hasGap_96 (by decide) (fun c_12 => ?_) (fun c_12 => ?_)
          · replace hf := q_it hf c_12
            refine lv_iconst (v := 1) hx hb d_Model_hasGap_107 (by decide) ?_
            refine lv_goto (tgt := 112) hx hb d_Model_hasGap_108 (by decide) ?_
            refine lv_istore_n (lv' := [(2, .int (bI true)), (0, .ref (ad 29)), (1, .int x1), (3, .int x3), (4, .int (bI x4)), (5, .int x5)]) hx hb d_Model_hasGap_112 rfl hl (by decide) rfl (fun ls hl => ?_)
            refine lv_iload hx hb d_Model_hasGap_113 (lv_at hl 4 rfl) ?_
            refine zv_eq (tgt := 124) hx hb d_Model_hasGap_115 (by decide) (fun c_13 => ?_) (fun c_13 => ?_)
            · replace hf := q_ie hf c_13
              refine lv_iconst (v := 0) hx hb d_Model_hasGap_124 (by decide) ?_
              refine lv_istore_n (lv' := [(1, .int 0), (2, .int (bI true)), (0, .ref (ad 29)), (3, .int x3), (4, .int (bI x4)), (5, .int x5)]) hx hb d_Model_hasGap_125 rfl hl (by decide) rfl (fun ls hl => ?_)
              refine lv_iinc (v := (x3 + 1)) (lv' := [(3, .int (x3 + 1)), (1, .int 0), (2, .int (bI true)), (0, .ref (ad 29)), (4, .int (bI x4)), (5, .int x5)]) hx hb d_Model_hasGap_126 hl (k := 3) rfl rfl (by decide) rfl (fun ls hl => ?_)
              refine lv_goto (tgt := 6) hx hb d_Model_hasGap_129 (by decide) ?_
              exact (ih).1 0 true (x3 + 1) hf ls (lv_sub hl [3, 1, 2, 0] rfl)
            replace hf := q_it hf c_13
            refine lv_iload_n hx hb d_Model_hasGap_118 rfl (lv_at hl 2 rfl) ?_
            refine lv_iconst (v := 1) hx hb d_Model_hasGap_119 (by decide) ?_
            refine lv_iadd hx hb d_Model_hasGap_120 ?_
            refine lv_goto (tgt := 125) hx hb d_Model_hasGap_121 (by decide) ?_
            refine lv_istore_n (lv' := [(1, .int (x1 + 1)), (2, .int (bI true)), (0, .ref (ad 29)), (3, .int x3), (4, .int (bI x4)), (5, .int x5)]) hx hb d_Model_hasGap_125 rfl hl (by decide) rfl (fun ls hl => ?_)
            refine lv_iinc (v := (x3 + 1)) (lv' := [(3, .int (x3 + 1)), (1, .int (x1 + 1)), (2, .int (bI true)), (0, .ref (ad 29)), (4, .int (bI x4)), (5, .int x5)]) hx hb d_Model_hasGap_126 hl (k := 3) rfl rfl (by decide) rfl (fun ls hl => ?_)
            refine lv_goto (tgt := 6) hx hb d_Model_hasGap_129 (by decide) ?_
            exact (ih).1 (x1 + 1) true (x3 + 1) hf ls (lv_sub hl [3, 1, 2, 0] rfl)
          replace hf := q_ie hf c_12
          refine lv_iload_n hx hb d_Model_hasGap_99 rfl (lv_at hl 1 rfl) ?_
          refine lv_aload_n hx hb d_Model_hasGap_100 rfl (lv_at hl 0 rfl) ?_
          refine va_get (D := D) (ci := 8) (v := .int v_mod_most) (C := R_Model) (T := F_Model) (N := 30) hx hb hts hn_Model hown hK hP 0 rfl rfl 14 (by decide) hL112 (fun _ h9 => h9) rfl d_Model_hasGap_101 ?_
          refine lv_icmp_le (tgt := 111) hx hb d_Model_hasGap_104 (by decide) (fun c_14 => ?_) (fun c_14 => ?_)
          · replace hf := q_it hf c_14
            refine lv_iconst (v := 0) hx hb d_Model_hasGap_111 (by decide) ?_
            refine lv_istore_n (lv' := [(2, .int (bI false)), (0, .ref (ad 29)), (1, .int x1), (3, .int x3), (4, .int (bI x4)), (5, .int x5)]) hx hb d_Model_hasGap_112 rfl hl (by decide) rfl (fun ls hl => ?_)
            refine lv_iload hx hb d_Model_hasGap_113 (lv_at hl 4 rfl) ?_
            refine zv_eq (tgt := 124) hx hb d_Model_hasGap_115 (by decide) (fun c_15 => ?_) (fun c_15 => ?_)
            · replace hf := q_ie hf c_15
              refine lv_iconst (v := 0) hx hb d_Model_hasGap_124 (by decide) ?_
              refine lv_istore_n (lv' := [(1, .int 0), (2, .int (bI false)), (0, .ref (ad 29)), (3, .int x3), (4, .int (bI x4)), (5, .int x5)]) hx hb d_Model_hasGap_125 rfl hl (by decide) rfl (fun ls hl => ?_)
              refine lv_iinc (v := (x3 + 1)) (lv' := [(3, .int (x3 + 1)), (1, .int 0), (2, .int (bI false)), (0, .ref (ad 29)), (4, .int (bI x4)), (5, .int x5)]) hx hb d_Model_hasGap_126 hl (k := 3) rfl rfl (by decide) rfl (fun ls hl => ?_)
              refine lv_goto (tgt := 6) hx hb d_Model_hasGap_129 (by decide) ?_
              exact (ih).1 0 false (x3 + 1) hf ls (lv_sub hl [3, 1, 2, 0] rfl)
            replace hf := q_it hf c_15
            refine lv_iload_n hx hb d_Model_hasGap_118 rfl (lv_at hl 2 rfl) ?_
            refine lv_iconst (v := 1) hx hb d_Model_hasGap_119 (by decide) ?_
            refine lv_iadd hx hb d_Model_hasGap_120 ?_
            refine lv_goto (tgt := 125) hx hb d_Model_hasGap_121 (by decide) ?_
            refine lv_istore_n (lv' := [(1, .int (x1 + 1)), (2, .int (bI false)), (0, .ref (ad 29)), (3, .int x3), (4, .int (bI x4)), (5, .int x5)]) hx hb d_Model_hasGap_125 rfl hl (by decide) rfl (fun ls hl => ?_)
            refine lv_iinc (v := (x3 + 1)) (lv' := [(3, .int (x3 + 1)), (1, .int (x1 + 1)), (2, .int (bI false)), (0, .ref (ad 29)), (4, .int (bI x4)), (5, .int x5)]) hx hb d_Model_hasGap_126 hl (k := 3) rfl rfl (by decide) rfl (fun ls hl => ?_)
            refine lv_goto (tgt := 6) hx hb d_Model_hasGap_129 (by decide) ?_
            exact (ih).1 (x1 + 1) false (x3 + 1) hf ls (lv_sub hl [3, 1, 2, 0] rfl)
          replace hf := q_ie hf c_14
          refine lv_iconst (v := 1) hx hb d_Model_hasGap_107 (by decide) ?_
          refine lv_goto (tgt := 112) hx hb d_Model_hasGap_108 (by decide) ?_
          refine lv_istore_n (lv' := [(2, .int (bI true)), (0, .ref (ad 29)), (1, .int x1), (3, .int x3), (4, .int (bI x4)), (5, .int x5)]) hx hb d_Model_hasGap_112 rfl hl (by decide) rfl (fun ls hl => ?_)
          refine lv_iload hx hb d_Model_hasGap_113 (lv_at hl 4 rfl) ?_
          refine zv_eq (tgt := 124) hx hb d_Model_hasGap_115 (by decide) (fun c_16 => ?_) (fun c_16 => ?_)
          · replace hf := q_ie hf c_16
            refine lv_iconst (v := 0) hx hb d_Model_hasGap_124 (by decide) ?_
            refine lv_istore_n (lv' := [(1, .int 0), (2, .int (bI true)), (0, .ref (ad 29)), (3, .int x3), (4, .int (bI x4)), (5, .int x5)]) hx hb d_Model_hasGap_125 rfl hl (by decide) rfl (fun ls hl => ?_)
            refine lv_iinc (v := (x3 + 1)) (lv' := [(3, .int (x3 + 1)), (1, .int 0), (2, .int (bI true)), (0, .ref (ad 29)), (4, .int (bI x4)), (5, .int x5)]) hx hb d_Model_hasGap_126 hl (k := 3) rfl rfl (by decide) rfl (fun ls hl => ?_)
            refine lv_goto (tgt := 6) hx hb d_Model_hasGap_129 (by decide) ?_
            exact (ih).1 0 true (x3 + 1) hf ls (lv_sub hl [3, 1, 2, 0] rfl)
          replace hf := q_it hf c_16
          refine lv_iload_n hx hb d_Model_hasGap_118 rfl (lv_at hl 2 rfl) ?_
          refine lv_iconst (v := 1) hx hb d_Model_hasGap_119 (by decide) ?_
          refine lv_iadd hx hb d_Model_hasGap_120 ?_
          refine lv_goto (tgt := 125) hx hb d_Model_hasGap_121 (by decide) ?_
          refine lv_istore_n (lv' := [(1, .int (x1 + 1)), (2, .int (bI true)), (0, .ref (ad 29)), (3, .int x3), (4, .int (bI x4)), (5, .int x5)]) hx hb d_Model_hasGap_125 rfl hl (by decide) rfl (fun ls hl => ?_)
          refine lv_iinc (v := (x3 + 1)) (lv' := [(3, .int (x3 + 1)), (1, .int (x1 + 1)), (2, .int (bI true)), (0, .ref (ad 29)), (4, .int (bI x4)), (5, .int x5)]) hx hb d_Model_hasGap_126 hl (k := 3) rfl rfl (by decide) rfl (fun ls hl => ?_)
          refine lv_goto (tgt := 6) hx hb d_Model_hasGap_129 (by decide) ?_
          exact (ih).1 (x1 + 1) true (x3 + 1) hf ls (lv_sub hl [3, 1, 2, 0] rfl)
        replace hf := q_ie hf c_5
        refine lv_iload hx hb d_Model_hasGap_50 (lv_at hl 4 rfl) ?_
        refine zv_eq (tgt := 69) hx hb d_Model_hasGap_52 (by decide) (fun c_17 => ?_) (fun c_17 => ?_)
        · replace hf := q_ie hf c_17
          refine lv_iconst (v := 0) hx hb d_Model_hasGap_69 (by decide) ?_
          refine lv_istore (lv' := [(4, .int (bI false)), (0, .ref (ad 29)), (1, .int x1), (2, .int (bI x2)), (3, .int x3), (5, .int x5)]) hx hb d_Model_hasGap_70 hl (by decide) rfl (fun ls hl => ?_)
          refine lv_iinc (v := (x5 + 1)) (lv' := [(5, .int (x5 + 1)), (4, .int (bI false)), (0, .ref (ad 29)), (1, .int x1), (2, .int (bI x2)), (3, .int x3)]) hx hb d_Model_hasGap_72 hl (k := 5) rfl rfl (by decide) rfl (fun ls hl => ?_)
          refine lv_goto (tgt := 41) hx hb d_Model_hasGap_75 (by decide) ?_
          exact (ih).2 x1 x2 x3 false (x5 + 1) hf ls (lv_sub hl [2, 3, 4, 5, 1, 0] rfl)
        replace hf := q_it hf c_17
        refine lv_aload_n hx hb d_Model_hasGap_55 rfl (lv_at hl 0 rfl) ?_
        refine lv_iload hx hb d_Model_hasGap_56 (lv_at hl 5 rfl) ?_
        refine lv_iload_n hx hb d_Model_hasGap_58 rfl (lv_at hl 3 rfl) ?_
        obtain ⟨r_18, hc_18, hf⟩ := q_mb hf
        refine q_pcall (W.runV (As := [.int x5, .int x3]) (rest := []) ⟨hx, hb, hml, hown, hts⟩ (c_Model_covers l D ad ki n_mwid n_mput v_mod_code v_mod_steps v_mod_pipes v_mod_items v_mod_least v_mod_most v_mod_hasPlan v_mod_told v_mod_pieces v_mod_planWorth v_mod_planCents v_mwid v_mput x5 x3 N r_18 hc_18) (cwV 2 hts (q_goodV ⟨m_1095, m_1097, m_50, m_64⟩ m_1098) rfl rfl rfl (by decide +kernel) ⟨Nat.le_of_ble_eq_true rfl, Nat.le_of_ble_eq_true rfl⟩) (q_preVP (wc := [(ad 29, .inr (8, [.int v_mod_code, .int v_mod_steps, .ref (ad 30), .int v_mod_pipes, .ref (ad 31), .int v_mod_items, .ref (ad 32), .ref (ad 33), .ref (ad 34), .ref (ad 35), .ref (ad 36), .ref (ad 37), .ref (ad 38), .int v_mod_least, .int v_mod_most, .ref (ad 39), .ref (ad 40), .ref (ad 41), .ref (ad 42), .ref (ad 43), .ref (ad 44), .int (bI v_mod_hasPlan), .int v_mod_told, .ref (ad 45), .int v_mod_pieces, .ref (ad 46), .ref (ad 47), .ref (ad 48), .long v_mod_planWorth, .long v_mod_planCents])), (ad 32, .inl (ki 0, n_mwid, .inl v_mwid)), (ad 39, .inl (ki 0, n_mput, .inl v_mput))]) hE hK hP [0, 2, 3] rfl 0 8 rfl rfl) rfl rfl hl.1 rfl (lv_room (Nat.le_of_ble_eq_true rfl)) d_Model_hasGap_59 ⟨Nat.le_of_ble_eq_true rfl, Nat.le_of_ble_eq_true rfl⟩) ?_
        refine zv_ne (tgt := 69) hx hb d_Model_hasGap_62 (by decide) (fun c_19 => ?_) (fun c_19 => ?_)
        · replace hf := q_it hf c_19
          refine lv_iconst (v := 0) hx hb d_Model_hasGap_69 (by decide) ?_
          refine lv_istore (lv' := [(4, .int (bI false)), (0, .ref (ad 29)), (1, .int x1), (2, .int (bI x2)), (3, .int x3), (5, .int x5)]) hx hb d_Model_hasGap_70 hl (by decide) rfl (fun ls hl => ?_)
          refine lv_iinc (v := (x5 + 1)) (lv' := [(5, .int (x5 + 1)), (4, .int (bI false)), (0, .ref (ad 29)), (1, .int x1), (2, .int (bI x2)), (3, .int x3)]) hx hb d_Model_hasGap_72 hl (k := 5) rfl rfl (by decide) rfl (fun ls hl => ?_)
          refine lv_goto (tgt := 41) hx hb d_Model_hasGap_75 (by decide) ?_
          exact (ih).2 x1 x2 x3 false (x5 + 1) hf ls (lv_sub hl [2, 3, 4, 5, 1, 0] rfl)
        replace hf := q_ie hf c_19
        refine lv_iconst (v := 1) hx hb d_Model_hasGap_65 (by decide) ?_
        refine lv_goto (tgt := 70) hx hb d_Model_hasGap_66 (by decide) ?_
        refine lv_istore (lv' := [(4, .int (bI true)), (0, .ref (ad 29)), (1, .int x1), (2, .int (bI x2)), (3, .int x3), (5, .int x5)]) hx hb d_Model_hasGap_70 hl (by decide) rfl (fun ls hl => ?_)
        refine lv_iinc (v := (x5 + 1)) (lv' := [(5, .int (x5 + 1)), (4, .int (bI true)), (0, .ref (ad 29)), (1, .int x1), (2, .int (bI x2)), (3, .int x3)]) hx hb d_Model_hasGap_72 hl (k := 5) rfl rfl (by decide) rfl (fun ls hl => ?_)
        refine lv_goto (tgt := 41) hx hb d_Model_hasGap_75 (by decide) ?_
        exact (ih).2 x1 x2 x3 true (x5 + 1) hf ls (lv_sub hl [2, 3, 4, 5, 1, 0] rfl)
  unfold f_Model_hasGap at hf
  refine lv_iconst (v := 0) hx hb d_Model_hasGap_0 (by decide) ?_
  refine lv_istore_n (lv' := [(1, .int 0), (0, .ref (ad 29))]) hx hb d_Model_hasGap_1 rfl hl (by decide) rfl (fun ls hl => ?_)
  refine lv_iconst (v := 0) hx hb d_Model_hasGap_2 (by decide) ?_
  refine lv_istore_n (lv' := [(2, .int (bI false)), (1, .int 0), (0, .ref (ad 29))]) hx hb d_Model_hasGap_3 rfl hl (by decide) rfl (fun ls hl => ?_)
  refine lv_iconst (v := 0) hx hb d_Model_hasGap_4 (by decide) ?_
  refine lv_istore_n (lv' := [(3, .int 0), (2, .int (bI false)), (1, .int 0), (0, .ref (ad 29))]) hx hb d_Model_hasGap_5 rfl hl (by decide) rfl (fun ls hl => ?_)
  exact (key N).1 0 false 0 hf ls (lv_sub hl [3, 2, 1, 0] rfl)
def f_Model_row_cut (N : Nat) (n_mwid : Nat) (n_mwor : Nat) (n_mnea : Nat) (n_mput : Nat) (v_mod_steps : Int32) (v_mod_pipes : Int32) (v_mod_items : Int32) (v_mod_least : Int32) (v_mod_most : Int32) (v_mod_hasPlan : Bool) (v_mod_told : Int32) (v_mod_pieces : Int32) (v_mod_planWorth : Int64) (v_mod_planCents : Int64) (v_mwid : Nat → Int32) (v_mwor : Nat → Int64) (v_mnea : Nat → Int64) (v_mput : Nat → Int32) : Nat → Nat → Int64 → Int32 → Int32 → (Int32) → Option (Int64 × Int32)
  | 0, _, _, _, _, _ => none
  | n + 1, t, x1, x3, x4, v_mod_code => if t = 0 then (if v_mod_items ≤ x3 then (some (x1, v_mod_code)) else (Option.bind (f_Model_isPut N n_mput v_mod_code v_mod_steps v_mod_pipes v_mod_items v_mod_least v_mod_most v_mod_hasPlan v_mod_told v_mod_pieces v_mod_planWorth v_mod_planCents v_mput x3) (fun r_2 => (if r_2 = true then (if x3 < 0 ∨ n_mwor ≤ Int32.toNatClampNeg x3 then none else (f_Model_row_cut N n_mwid n_mwor n_mnea n_mput v_mod_steps v_mod_pipes v_mod_items v_mod_least v_mod_most v_mod_hasPlan v_mod_told v_mod_pieces v_mod_planWorth v_mod_planCents v_mwid v_mwor v_mnea v_mput n 1 (x1 + (v_mwor (Int32.toNatClampNeg x3))) x3 0 v_mod_code)) else (f_Model_row_cut N n_mwid n_mwor n_mnea n_mput v_mod_steps v_mod_pipes v_mod_items v_mod_least v_mod_most v_mod_hasPlan v_mod_told v_mod_pieces v_mod_planWorth v_mod_planCents v_mwid v_mwor v_mnea v_mput n 1 (x1 + 0) x3 0 v_mod_code))))) else (if x3 ≤ x4 then (f_Model_row_cut N n_mwid n_mwor n_mnea n_mput v_mod_steps v_mod_pipes v_mod_items v_mod_least v_mod_most v_mod_hasPlan v_mod_told v_mod_pieces v_mod_planWorth v_mod_planCents v_mwid v_mwor v_mnea v_mput n 0 x1 (x3 + 1) 0 v_mod_code) else (Option.bind (f_Model_touch N n_mwid n_mput v_mod_code v_mod_steps v_mod_pipes v_mod_items v_mod_least v_mod_most v_mod_hasPlan v_mod_told v_mod_pieces v_mod_planWorth v_mod_planCents v_mwid v_mput x3 x4) (fun r_6 => (if r_6 = true then (if ((6 * x3) + x4) < 0 ∨ n_mnea ≤ Int32.toNatClampNeg ((6 * x3) + x4) then none else (f_Model_row_cut N n_mwid n_mwor n_mnea n_mput v_mod_steps v_mod_pipes v_mod_items v_mod_least v_mod_most v_mod_hasPlan v_mod_told v_mod_pieces v_mod_planWorth v_mod_planCents v_mwid v_mwor v_mnea v_mput n 1 (x1 + (v_mnea (Int32.toNatClampNeg ((6 * x3) + x4)))) x3 (x4 + 1) v_mod_code)) else (f_Model_row_cut N n_mwid n_mwor n_mnea n_mput v_mod_steps v_mod_pipes v_mod_items v_mod_least v_mod_most v_mod_hasPlan v_mod_told v_mod_pieces v_mod_planWorth v_mod_planCents v_mwid v_mwor v_mnea v_mput n 1 (x1 + 0) x3 (x4 + 1) v_mod_code)))))
theorem f_Model_row_cut_0 (N : Nat) (n_mwid : Nat) (n_mwor : Nat) (n_mnea : Nat) (n_mput : Nat) (v_mod_steps : Int32) (v_mod_pipes : Int32) (v_mod_items : Int32) (v_mod_least : Int32) (v_mod_most : Int32) (v_mod_hasPlan : Bool) (v_mod_told : Int32) (v_mod_pieces : Int32) (v_mod_planWorth : Int64) (v_mod_planCents : Int64) (v_mwid : Nat → Int32) (v_mwor : Nat → Int64) (v_mnea : Nat → Int64) (v_mput : Nat → Int32) (n : Nat) (x1 : Int64) (x3 : Int32) (x4 : Int32) (v_mod_code : Int32) : f_Model_row_cut N n_mwid n_mwor n_mnea n_mput v_mod_steps v_mod_pipes v_mod_items v_mod_least v_mod_most v_mod_hasPlan v_mod_told v_mod_pieces v_mod_planWorth v_mod_planCents v_mwid v_mwor v_mnea v_mput (n + 1) 0 x1 x3 x4 v_mod_code = (if v_mod_items ≤ x3 then (some (x1, v_mod_code)) else (Option.bind (f_Model_isPut N n_mput v_mod_code v_mod_steps v_mod_pipes v_mod_items v_mod_least v_mod_most v_mod_hasPlan v_mod_told v_mod_pieces v_mod_planWorth v_mod_planCents v_mput x3) (fun r_2 => (if r_2 = true then (if x3 < 0 ∨ n_mwor ≤ Int32.toNatClampNeg x3 then none else (f_Model_row_cut N n_mwid n_mwor n_mnea n_mput v_mod_steps v_mod_pipes v_mod_items v_mod_least v_mod_most v_mod_hasPlan v_mod_told v_mod_pieces v_mod_planWorth v_mod_planCents v_mwid v_mwor v_mnea v_mput n 1 (x1 + (v_mwor (Int32.toNatClampNeg x3))) x3 0 v_mod_code)) else (f_Model_row_cut N n_mwid n_mwor n_mnea n_mput v_mod_steps v_mod_pipes v_mod_items v_mod_least v_mod_most v_mod_hasPlan v_mod_told v_mod_pieces v_mod_planWorth v_mod_planCents v_mwid v_mwor v_mnea v_mput n 1 (x1 + 0) x3 0 v_mod_code))))) := by rw [f_Model_row_cut, if_pos rfl]
theorem f_Model_row_cut_1 (N : Nat) (n_mwid : Nat) (n_mwor : Nat) (n_mnea : Nat) (n_mput : Nat) (v_mod_steps : Int32) (v_mod_pipes : Int32) (v_mod_items : Int32) (v_mod_least : Int32) (v_mod_most : Int32) (v_mod_hasPlan : Bool) (v_mod_told : Int32) (v_mod_pieces : Int32) (v_mod_planWorth : Int64) (v_mod_planCents : Int64) (v_mwid : Nat → Int32) (v_mwor : Nat → Int64) (v_mnea : Nat → Int64) (v_mput : Nat → Int32) (n : Nat) (x1 : Int64) (x3 : Int32) (x4 : Int32) (v_mod_code : Int32) : f_Model_row_cut N n_mwid n_mwor n_mnea n_mput v_mod_steps v_mod_pipes v_mod_items v_mod_least v_mod_most v_mod_hasPlan v_mod_told v_mod_pieces v_mod_planWorth v_mod_planCents v_mwid v_mwor v_mnea v_mput (n + 1) 1 x1 x3 x4 v_mod_code = (if x3 ≤ x4 then (f_Model_row_cut N n_mwid n_mwor n_mnea n_mput v_mod_steps v_mod_pipes v_mod_items v_mod_least v_mod_most v_mod_hasPlan v_mod_told v_mod_pieces v_mod_planWorth v_mod_planCents v_mwid v_mwor v_mnea v_mput n 0 x1 (x3 + 1) 0 v_mod_code) else (Option.bind (f_Model_touch N n_mwid n_mput v_mod_code v_mod_steps v_mod_pipes v_mod_items v_mod_least v_mod_most v_mod_hasPlan v_mod_told v_mod_pieces v_mod_planWorth v_mod_planCents v_mwid v_mput x3 x4) (fun r_6 => (if r_6 = true then (if ((6 * x3) + x4) < 0 ∨ n_mnea ≤ Int32.toNatClampNeg ((6 * x3) + x4) then none else (f_Model_row_cut N n_mwid n_mwor n_mnea n_mput v_mod_steps v_mod_pipes v_mod_items v_mod_least v_mod_most v_mod_hasPlan v_mod_told v_mod_pieces v_mod_planWorth v_mod_planCents v_mwid v_mwor v_mnea v_mput n 1 (x1 + (v_mnea (Int32.toNatClampNeg ((6 * x3) + x4)))) x3 (x4 + 1) v_mod_code)) else (f_Model_row_cut N n_mwid n_mwor n_mnea n_mput v_mod_steps v_mod_pipes v_mod_items v_mod_least v_mod_most v_mod_hasPlan v_mod_told v_mod_pieces v_mod_planWorth v_mod_planCents v_mwid v_mwor v_mnea v_mput n 1 (x1 + 0) x3 (x4 + 1) v_mod_code))))) := by rw [f_Model_row_cut, if_neg (by decide)]
def f_Model_row (N : Nat) (n_mwid : Nat) (n_mwor : Nat) (n_mnea : Nat) (n_mput : Nat) (v_mod_code : Int32) (v_mod_steps : Int32) (v_mod_pipes : Int32) (v_mod_items : Int32) (v_mod_least : Int32) (v_mod_most : Int32) (v_mod_hasPlan : Bool) (v_mod_told : Int32) (v_mod_pieces : Int32) (v_mod_planWorth : Int64) (v_mod_planCents : Int64) (v_mwid : Nat → Int32) (v_mwor : Nat → Int64) (v_mnea : Nat → Int64) (v_mput : Nat → Int32)  : Option (Int64 × Int32) := (f_Model_row_cut N n_mwid n_mwor n_mnea n_mput v_mod_steps v_mod_pipes v_mod_items v_mod_least v_mod_most v_mod_hasPlan v_mod_told v_mod_pieces v_mod_planWorth v_mod_planCents v_mwid v_mwor v_mnea v_mput N 0 0 0 0 0)
set_option maxRecDepth 100000 in
set_option maxHeartbeats 4000000 in
theorem c_Model_row (l : Launch) (D : va_G) (ad : Nat → Nat) (ki : Nat → ClassId) (n_mwid : Nat) (n_mwor : Nat) (n_mnea : Nat) (n_mput : Nat) (v_mod_code : Int32) (v_mod_steps : Int32) (v_mod_pipes : Int32) (v_mod_items : Int32) (v_mod_least : Int32) (v_mod_most : Int32) (v_mod_hasPlan : Bool) (v_mod_told : Int32) (v_mod_pieces : Int32) (v_mod_planWorth : Int64) (v_mod_planCents : Int64) (v_mwid : Nat → Int32) (v_mwor : Nat → Int64) (v_mnea : Nat → Int64) (v_mput : Nat → Int32)  (N : Nat) (sz : Nat) (r : Int64) (ov_mod_code : Int32) (hf : f_Model_row N n_mwid n_mwor n_mnea n_mput v_mod_code v_mod_steps v_mod_pipes v_mod_items v_mod_least v_mod_most v_mod_hasPlan v_mod_told v_mod_pieces v_mod_planWorth v_mod_planCents v_mwid v_mwor v_mnea v_mput = some (r, ov_mod_code)) : Met l y_Model_row w_Model_row { frames := 2, cells := 0, slots := 0, locals := 43 } (q_PcM [.ref (ad 29)] D vwCl [(ad 29, .inr (8, [.int v_mod_code, .int v_mod_steps, .ref (ad 30), .int v_mod_pipes, .ref (ad 31), .int v_mod_items, .ref (ad 32), .ref (ad 33), .ref (ad 34), .ref (ad 35), .ref (ad 36), .ref (ad 37), .ref (ad 38), .int v_mod_least, .int v_mod_most, .ref (ad 39), .ref (ad 40), .ref (ad 41), .ref (ad 42), .ref (ad 43), .ref (ad 44), .int (bI v_mod_hasPlan), .int v_mod_told, .ref (ad 45), .int v_mod_pieces, .ref (ad 46), .ref (ad 47), .ref (ad 48), .long v_mod_planWorth, .long v_mod_planCents])), (ad 32, .inl (ki 0, n_mwid, .inl v_mwid)), (ad 33, .inl (ki 1, n_mwor, .inr (.inl v_mwor))), (ad 37, .inl (ki 1, n_mnea, .inr (.inl v_mnea))), (ad 39, .inl (ki 0, n_mput, .inl v_mput))] (TYS ki) sz) (q_Qm (some (.long r)) D vwCl [(ad 29, .inr (8, [.int ov_mod_code, .int v_mod_steps, .ref (ad 30), .int v_mod_pipes, .ref (ad 31), .int v_mod_items, .ref (ad 32), .ref (ad 33), .ref (ad 34), .ref (ad 35), .ref (ad 36), .ref (ad 37), .ref (ad 38), .int v_mod_least, .int v_mod_most, .ref (ad 39), .ref (ad 40), .ref (ad 41), .ref (ad 42), .ref (ad 43), .ref (ad 44), .int (bI v_mod_hasPlan), .int v_mod_told, .ref (ad 45), .int v_mod_pieces, .ref (ad 46), .ref (ad 47), .ref (ad 48), .long v_mod_planWorth, .long v_mod_planCents])), (ad 32, .inl (ki 0, n_mwid, .inl v_mwid)), (ad 33, .inl (ki 1, n_mwor, .inr (.inl v_mwor))), (ad 37, .inl (ki 1, n_mnea, .inr (.inl v_mnea))), (ad 39, .inl (ki 0, n_mput, .inl v_mput))] (va_A [(ad 29, .inr (8, [.int v_mod_code, .int v_mod_steps, .ref (ad 30), .int v_mod_pipes, .ref (ad 31), .int v_mod_items, .ref (ad 32), .ref (ad 33), .ref (ad 34), .ref (ad 35), .ref (ad 36), .ref (ad 37), .ref (ad 38), .int v_mod_least, .int v_mod_most, .ref (ad 39), .ref (ad 40), .ref (ad 41), .ref (ad 42), .ref (ad 43), .ref (ad 44), .int (bI v_mod_hasPlan), .int v_mod_told, .ref (ad 45), .int v_mod_pieces, .ref (ad 46), .ref (ad 47), .ref (ad 48), .long v_mod_planWorth, .long v_mod_planCents])), (ad 32, .inl (ki 0, n_mwid, .inl v_mwid)), (ad 33, .inl (ki 1, n_mwor, .inr (.inl v_mwor))), (ad 37, .inl (ki 1, n_mnea, .inr (.inl v_mnea))), (ad 39, .inl (ki 0, n_mput, .inl v_mput))] sz)) 0 0 (va_A [(ad 29, .inr (8, [.int v_mod_code, .int v_mod_steps, .ref (ad 30), .int v_mod_pipes, .ref (ad 31), .int v_mod_items, .ref (ad 32), .ref (ad 33), .ref (ad 34), .ref (ad 35), .ref (ad 36), .ref (ad 37), .ref (ad 38), .int v_mod_least, .int v_mod_most, .ref (ad 39), .ref (ad 40), .ref (ad 41), .ref (ad 42), .ref (ad 43), .ref (ad 44), .int (bI v_mod_hasPlan), .int v_mod_told, .ref (ad 45), .int v_mod_pieces, .ref (ad 46), .ref (ad 47), .ref (ad 48), .long v_mod_planWorth, .long v_mod_planCents])), (ad 32, .inl (ki 0, n_mwid, .inl v_mwid)), (ad 33, .inl (ki 1, n_mwor, .inr (.inl v_mwor))), (ad 37, .inl (ki 1, n_mnea, .inr (.inl v_mnea))), (ad 39, .inl (ki 0, n_mput, .inl v_mput))] sz) := by
  refine Met.ofW (cc := b_Model_row) (maxL := 5) (ret := (some .long)) (by decide) rfl ?_
  intro p e s m args below meth c s₁ B hml hv
  obtain ⟨rfl, hsz, hP, hK, hD0, hE⟩ := hv
  have hx := B.exec
  have hb := B.bytes
  have hr := B.returns
  have hts := atoms_spec (ws := w_Model_row) B.pre
  have hown : s.vm.findClass R_Model = some m.cls := findClass_of_methodNamed B.named
  have hlocks := B.notSynchronized
  have hn_Model : ∀ w ∈ u_ws R_Model F_Model 30, w ∈ w_Model_row := (fun w h => List.mem_cons_of_mem _ (i_Model w h))
  have hL20 := hts (.fieldLink R_Model 20 "RoomFillsModel" "worths" "[J") (List.mem_cons_of_mem _ m_850)
  have hL33 := hts (.fieldLink R_Model 33 "RoomFillsModel" "nears" "[J") (List.mem_cons_of_mem _ m_854)
  have hL76 := hts (.fieldLink R_Model 76 "RoomFillsModel" "code" "I") (List.mem_cons_of_mem _ m_843)
  have hL97 := hts (.fieldLink R_Model 97 "RoomFillsModel" "items" "I") (List.mem_cons_of_mem _ m_848)
  subst hsz
  have hD := hD0.self (sz := s.heap.size)
  generalize hAe : va_A [(ad 29, .inr (8, [.int v_mod_code, .int v_mod_steps, .ref (ad 30), .int v_mod_pipes, .ref (ad 31), .int v_mod_items, .ref (ad 32), .ref (ad 33), .ref (ad 34), .ref (ad 35), .ref (ad 36), .ref (ad 37), .ref (ad 38), .int v_mod_least, .int v_mod_most, .ref (ad 39), .ref (ad 40), .ref (ad 41), .ref (ad 42), .ref (ad 43), .ref (ad 44), .int (bI v_mod_hasPlan), .int v_mod_told, .ref (ad 45), .int v_mod_pieces, .ref (ad 46), .ref (ad 47), .ref (ad 48), .long v_mod_planWorth, .long v_mod_planCents])), (ad 32, .inl (ki 0, n_mwid, .inl v_mwid)), (ad 33, .inl (ki 1, n_mwor, .inr (.inl v_mwor))), (ad 37, .inl (ki 1, n_mnea, .inr (.inl v_mnea))), (ad 39, .inl (ki 0, n_mput, .inl v_mput))] s.heap.size = A at hD ⊢
  have hA : ∀ q : Nat, s.heap.size ≤ q → A q := fun q h => by rw [← hAe]; exact Or.inr h
  have hS : va_S A s.heap s.heap [] := va_S.rf
  replace hP : va_P D vwCl [(ad 29, .inr (8, [.int v_mod_code, .int v_mod_steps, .ref (ad 30), .int v_mod_pipes, .ref (ad 31), .int v_mod_items, .ref (ad 32), .ref (ad 33), .ref (ad 34), .ref (ad 35), .ref (ad 36), .ref (ad 37), .ref (ad 38), .int v_mod_least, .int v_mod_most, .ref (ad 39), .ref (ad 40), .ref (ad 41), .ref (ad 42), .ref (ad 43), .ref (ad 44), .int (bI v_mod_hasPlan), .int v_mod_told, .ref (ad 45), .int v_mod_pieces, .ref (ad 46), .ref (ad 47), .ref (ad 48), .long v_mod_planWorth, .long v_mod_planCents])), (ad 32, .inl (ki 0, n_mwid, .inl v_mwid)), (ad 33, .inl (ki 1, n_mwor, .inr (.inl v_mwor))), (ad 37, .inl (ki 1, n_mnea, .inr (.inl v_mnea))), (ad 39, .inl (ki 0, n_mput, .inl v_mput))] s.heap := hP
  have hl := lv_entry ([.ref (ad 29)]) (n := 5) (Nat.le_of_ble_eq_true rfl)
  rw [lg_entry_eq]
  generalize (lg_sl ([.ref (ad 29)]) ++ List.replicate (5 - (lg_sl ([.ref (ad 29)])).length) Slot.unset).toArray = ls at hl ⊢
  replace hl : lv_has ls 5 [(0, .ref (ad 29))] := hl
  have key : ∀ n : Nat, (∀ (x1 : Int64) (x3 : Int32) (v_mod_code : Int32), f_Model_row_cut N n_mwid n_mwor n_mnea n_mput v_mod_steps v_mod_pipes v_mod_items v_mod_least v_mod_most v_mod_hasPlan v_mod_told v_mod_pieces v_mod_planWorth v_mod_planCents v_mwid v_mwor v_mnea v_mput n 0 x1 x3 0 v_mod_code = some (r, ov_mod_code) → ∀ (H : Heap) (locs : List Loc), va_P D vwCl [(ad 29, .inr (8, [.int v_mod_code, .int v_mod_steps, .ref (ad 30), .int v_mod_pipes, .ref (ad 31), .int v_mod_items, .ref (ad 32), .ref (ad 33), .ref (ad 34), .ref (ad 35), .ref (ad 36), .ref (ad 37), .ref (ad 38), .int v_mod_least, .int v_mod_most, .ref (ad 39), .ref (ad 40), .ref (ad 41), .ref (ad 42), .ref (ad 43), .ref (ad 44), .int (bI v_mod_hasPlan), .int v_mod_told, .ref (ad 45), .int v_mod_pieces, .ref (ad 46), .ref (ad 47), .ref (ad 48), .long v_mod_planWorth, .long v_mod_planCents])), (ad 32, .inl (ki 0, n_mwid, .inl v_mwid)), (ad 33, .inl (ki 1, n_mwor, .inr (.inl v_mwor))), (ad 37, .inl (ki 1, n_mnea, .inr (.inl v_mnea))), (ad 39, .inl (ki 0, n_mput, .inl v_mput))] H → va_D A [(ad 29, .inr (8, [.int v_mod_code, .int v_mod_steps, .ref (ad 30), .int v_mod_pipes, .ref (ad 31), .int v_mod_items, .ref (ad 32), .ref (ad 33), .ref (ad 34), .ref (ad 35), .ref (ad 36), .ref (ad 37), .ref (ad 38), .int v_mod_least, .int v_mod_most, .ref (ad 39), .ref (ad 40), .ref (ad 41), .ref (ad 42), .ref (ad 43), .ref (ad 44), .int (bI v_mod_hasPlan), .int v_mod_told, .ref (ad 45), .int v_mod_pieces, .ref (ad 46), .ref (ad 47), .ref (ad 48), .long v_mod_planWorth, .long v_mod_planCents])), (ad 32, .inl (ki 0, n_mwid, .inl v_mwid)), (ad 33, .inl (ki 1, n_mwor, .inr (.inl v_mwor))), (ad 37, .inl (ki 1, n_mnea, .inr (.inl v_mnea))), (ad 39, .inl (ki 0, n_mput, .inl v_mput))] → va_S A s.heap H locs → ∀ (ls : Array Slot), lv_has ls 5 [(0, .ref (ad 29)), (1, .long x1), (3, .int x3)] → W p l e (headSpec w_Model_row { frames := 2, cells := 0, slots := 0, locals := 43 }).room s m ([.ref (ad 29)] : List Value).toArray below meth c H locs 0 0 (MQ below (q_Qm (some (.long r)) D vwCl [(ad 29, .inr (8, [.int ov_mod_code, .int v_mod_steps, .ref (ad 30), .int v_mod_pipes, .ref (ad 31), .int v_mod_items, .ref (ad 32), .ref (ad 33), .ref (ad 34), .ref (ad 35), .ref (ad 36), .ref (ad 37), .ref (ad 38), .int v_mod_least, .int v_mod_most, .ref (ad 39), .ref (ad 40), .ref (ad 41), .ref (ad 42), .ref (ad 43), .ref (ad 44), .int (bI v_mod_hasPlan), .int v_mod_told, .ref (ad 45), .int v_mod_pieces, .ref (ad 46), .ref (ad 47), .ref (ad 48), .long v_mod_planWorth, .long v_mod_planCents])), (ad 32, .inl (ki 0, n_mwid, .inl v_mwid)), (ad 33, .inl (ki 1, n_mwor, .inr (.inl v_mwor))), (ad 37, .inl (ki 1, n_mnea, .inr (.inl v_mnea))), (ad 39, .inl (ki 0, n_mput, .inl v_mput))] A) ([.ref (ad 29)] : List Value).toArray s 0 0 A) (F0 m 9 ls [])) ∧ (∀ (x1 : Int64) (x3 : Int32) (x4 : Int32) (v_mod_code : Int32), f_Model_row_cut N n_mwid n_mwor n_mnea n_mput v_mod_steps v_mod_pipes v_mod_items v_mod_least v_mod_most v_mod_hasPlan v_mod_told v_mod_pieces v_mod_planWorth v_mod_planCents v_mwid v_mwor v_mnea v_mput n 1 x1 x3 x4 v_mod_code = some (r, ov_mod_code) → ∀ (H : Heap) (locs : List Loc), va_P D vwCl [(ad 29, .inr (8, [.int v_mod_code, .int v_mod_steps, .ref (ad 30), .int v_mod_pipes, .ref (ad 31), .int v_mod_items, .ref (ad 32), .ref (ad 33), .ref (ad 34), .ref (ad 35), .ref (ad 36), .ref (ad 37), .ref (ad 38), .int v_mod_least, .int v_mod_most, .ref (ad 39), .ref (ad 40), .ref (ad 41), .ref (ad 42), .ref (ad 43), .ref (ad 44), .int (bI v_mod_hasPlan), .int v_mod_told, .ref (ad 45), .int v_mod_pieces, .ref (ad 46), .ref (ad 47), .ref (ad 48), .long v_mod_planWorth, .long v_mod_planCents])), (ad 32, .inl (ki 0, n_mwid, .inl v_mwid)), (ad 33, .inl (ki 1, n_mwor, .inr (.inl v_mwor))), (ad 37, .inl (ki 1, n_mnea, .inr (.inl v_mnea))), (ad 39, .inl (ki 0, n_mput, .inl v_mput))] H → va_D A [(ad 29, .inr (8, [.int v_mod_code, .int v_mod_steps, .ref (ad 30), .int v_mod_pipes, .ref (ad 31), .int v_mod_items, .ref (ad 32), .ref (ad 33), .ref (ad 34), .ref (ad 35), .ref (ad 36), .ref (ad 37), .ref (ad 38), .int v_mod_least, .int v_mod_most, .ref (ad 39), .ref (ad 40), .ref (ad 41), .ref (ad 42), .ref (ad 43), .ref (ad 44), .int (bI v_mod_hasPlan), .int v_mod_told, .ref (ad 45), .int v_mod_pieces, .ref (ad 46), .ref (ad 47), .ref (ad 48), .long v_mod_planWorth, .long v_mod_planCents])), (ad 32, .inl (ki 0, n_mwid, .inl v_mwid)), (ad 33, .inl (ki 1, n_mwor, .inr (.inl v_mwor))), (ad 37, .inl (ki 1, n_mnea, .inr (.inl v_mnea))), (ad 39, .inl (ki 0, n_mput, .inl v_mput))] → va_S A s.heap H locs → ∀ (ls : Array Slot), lv_has ls 5 [(0, .ref (ad 29)), (1, .long x1), (3, .int x3), (4, .int x4)] → W p l e (headSpec w_Model_row { frames := 2, cells := 0, slots := 0, locals := 43 }).room s m ([.ref (ad 29)] : List Value).toArray below meth c H locs 0 0 (MQ below (q_Qm (some (.long r)) D vwCl [(ad 29, .inr (8, [.int ov_mod_code, .int v_mod_steps, .ref (ad 30), .int v_mod_pipes, .ref (ad 31), .int v_mod_items, .ref (ad 32), .ref (ad 33), .ref (ad 34), .ref (ad 35), .ref (ad 36), .ref (ad 37), .ref (ad 38), .int v_mod_least, .int v_mod_most, .ref (ad 39), .ref (ad 40), .ref (ad 41), .ref (ad 42), .ref (ad 43), .ref (ad 44), .int (bI v_mod_hasPlan), .int v_mod_told, .ref (ad 45), .int v_mod_pieces, .ref (ad 46), .ref (ad 47), .ref (ad 48), .long v_mod_planWorth, .long v_mod_planCents])), (ad 32, .inl (ki 0, n_mwid, .inl v_mwid)), (ad 33, .inl (ki 1, n_mwor, .inr (.inl v_mwor))), (ad 37, .inl (ki 1, n_mnea, .inr (.inl v_mnea))), (ad 39, .inl (ki 0, n_mput, .inl v_mput))] A) ([.ref (ad 29)] : List Value).toArray s 0 0 A) (F0 m 41 ls [])) := by
    intro n
    induction n with
    | zero =>
      exact ⟨fun x1 x3 v_mod_code hf => (nomatch (show none = some _ from hf)), fun x1 x3 x4 v_mod_code hf => (nomatch (show none = some _ from hf))⟩
    | succ n ih =>
      refine ⟨?_, ?_⟩
      · intro x1 x3 v_mod_code hf H locs hP hD hS ls hl
        rw [f_Model_row_cut_0] at hf
        refine lv_iload_n hx hb d_Model_row_9 rfl (lv_at hl 2 rfl) ?_
        refine lv_aload_n hx hb d_Model_row_10 rfl (lv_at hl 0 rfl) ?_
        refine va_get (D := D) (ci := 8) (v := .int v_mod_items) (C := R_Model) (T := F_Model) (N := 30) hx hb hts hn_Model hown hK hP 0 rfl rfl 5 (by decide) hL97 (fun _ h9 => h9) rfl d_Model_row_11 ?_
        refine lv_icmp_ge (tgt := 88) hx hb d_Model_row_14 (by decide) (fun c_1 => ?_) (fun c_1 => ?_)
        · replace hf := q_it hf c_1
          refine lv_lload_n hx hb d_Model_row_88 rfl (lv_at hl 1 rfl) ?_
          cases hf
          first | exact W.lret (v := x1) hx hb hr (fun t ht hW => ⟨rfl, by rw [ht]; exact hP, hS.F ht⟩) hS.2.2 d_Model_row_89 | exact W.lret (v := r) hx hb hr (fun t ht hW => ⟨rfl, by rw [ht]; exact hP, hS.F ht⟩) hS.2.2 d_Model_row_89
        replace hf := q_ie hf c_1
        refine lv_lload_n hx hb d_Model_row_17 rfl (lv_at hl 1 rfl) ?_
        refine lv_aload_n hx hb d_Model_row_18 rfl (lv_at hl 0 rfl) ?_
        refine lv_iload_n hx hb d_Model_row_19 rfl (lv_at hl 2 rfl) ?_
        obtain ⟨r_2, hc_2, hf⟩ := q_mb hf
        refine q_pcall (W.runV (As := [.int x3]) (rest := [.long x1]) ⟨hx, hb, hml, hown, hts⟩ (c_Model_isPut l D ad ki n_mput v_mod_code v_mod_steps v_mod_pipes v_mod_items v_mod_least v_mod_most v_mod_hasPlan v_mod_told v_mod_pieces v_mod_planWorth v_mod_planCents v_mput x3 N r_2 hc_2) (cwV 1 hts (q_goodV ⟨m_1099, m_1101, m_51, m_64⟩ m_1102) rfl rfl rfl (by decide +kernel) ⟨Nat.le_of_ble_eq_true rfl, Nat.le_of_ble_eq_true rfl⟩) (q_preVP (wc := [(ad 29, .inr (8, [.int v_mod_code, .int v_mod_steps, .ref (ad 30), .int v_mod_pipes, .ref (ad 31), .int v_mod_items, .ref (ad 32), .ref (ad 33), .ref (ad 34), .ref (ad 35), .ref (ad 36), .ref (ad 37), .ref (ad 38), .int v_mod_least, .int v_mod_most, .ref (ad 39), .ref (ad 40), .ref (ad 41), .ref (ad 42), .ref (ad 43), .ref (ad 44), .int (bI v_mod_hasPlan), .int v_mod_told, .ref (ad 45), .int v_mod_pieces, .ref (ad 46), .ref (ad 47), .ref (ad 48), .long v_mod_planWorth, .long v_mod_planCents])), (ad 39, .inl (ki 0, n_mput, .inl v_mput))]) hE hK hP [0, 4] rfl 0 8 rfl rfl) rfl rfl hl.1 rfl (lv_room (Nat.le_of_ble_eq_true rfl)) d_Model_row_20 ⟨Nat.le_of_ble_eq_true rfl, Nat.le_of_ble_eq_true rfl⟩) ?_
        refine zv_eq (tgt := 35) hx hb d_Model_row_23 (by decide) (fun c_3 => ?_) (fun c_3 => ?_)
        · replace hf := q_ie hf c_3
          refine lv_lconst (v := 0) hx hb d_Model_row_35 (by decide) ?_
          refine lv_ladd hx hb d_Model_row_36 ?_
          refine lv_lstore_n (lv' := [(1, .long (x1 + 0)), (0, .ref (ad 29)), (3, .int x3)]) hx hb d_Model_row_37 rfl hl (by decide) rfl (fun ls hl => ?_)
          refine lv_iconst (v := 0) hx hb d_Model_row_38 (by decide) ?_
          refine lv_istore (lv' := [(4, .int 0), (1, .long (x1 + 0)), (0, .ref (ad 29)), (3, .int x3)]) hx hb d_Model_row_39 hl (by decide) rfl (fun ls hl => ?_)
          exact (ih).2 (x1 + 0) x3 0 v_mod_code hf _ _ hP hD hS ls (lv_sub hl [2, 1, 3, 0] rfl)
        replace hf := q_it hf c_3
        refine lv_aload_n hx hb d_Model_row_26 rfl (lv_at hl 0 rfl) ?_
        refine va_get (D := D) (ci := 8) (v := .ref (ad 33)) (C := R_Model) (T := F_Model) (N := 30) hx hb hts hn_Model hown hK hP 0 rfl rfl 7 (by decide) hL20 (fun _ h9 => h9) rfl d_Model_row_27 ?_
        refine lv_iload_n hx hb d_Model_row_30 rfl (lv_at hl 2 rfl) ?_
        obtain ⟨hi_4, hf⟩ := q_ck hf
        refine va_lald hx hb hK hP 2 1 rfl rfl hi_4 d_Model_row_31 ?_
        refine lv_goto (tgt := 36) hx hb d_Model_row_32 (by decide) ?_
        refine lv_ladd hx hb d_Model_row_36 ?_
        refine lv_lstore_n (lv' := [(1, .long (x1 + (v_mwor (Int32.toNatClampNeg x3)))), (0, .ref (ad 29)), (3, .int x3)]) hx hb d_Model_row_37 rfl hl (by decide) rfl (fun ls hl => ?_)
        refine lv_iconst (v := 0) hx hb d_Model_row_38 (by decide) ?_
        refine lv_istore (lv' := [(4, .int 0), (1, .long (x1 + (v_mwor (Int32.toNatClampNeg x3)))), (0, .ref (ad 29)), (3, .int x3)]) hx hb d_Model_row_39 hl (by decide) rfl (fun ls hl => ?_)
        exact (ih).2 (x1 + (v_mwor (Int32.toNatClampNeg x3))) x3 0 v_mod_code hf _ _ hP hD hS ls (lv_sub hl [2, 1, 3, 0] rfl)
      · intro x1 x3 x4 v_mod_code hf H locs hP hD hS ls hl
        rw [f_Model_row_cut_1] at hf
        refine lv_iload hx hb d_Model_row_41 (lv_at hl 3 rfl) ?_
        refine lv_iload_n hx hb d_Model_row_43 rfl (lv_at hl 2 rfl) ?_
        refine lv_icmp_ge (tgt := 82) hx hb d_Model_row_44 (by decide) (fun c_5 => ?_) (fun c_5 => ?_)
        · replace hf := q_it hf c_5
          refine lv_iinc (v := (x3 + 1)) (lv' := [(3, .int (x3 + 1)), (0, .ref (ad 29)), (1, .long x1), (4, .int x4)]) hx hb d_Model_row_82 hl (k := 2) rfl rfl (by decide) rfl (fun ls hl => ?_)
          refine lv_goto (tgt := 9) hx hb d_Model_row_85 (by decide) ?_
          exact (ih).1 x1 (x3 + 1) v_mod_code hf _ _ hP hD hS ls (lv_sub hl [1, 2, 0] rfl)
        replace hf := q_ie hf c_5
        refine lv_lload_n hx hb d_Model_row_47 rfl (lv_at hl 1 rfl) ?_
        refine lv_aload_n hx hb d_Model_row_48 rfl (lv_at hl 0 rfl) ?_
        refine lv_iload_n hx hb d_Model_row_49 rfl (lv_at hl 2 rfl) ?_
        refine lv_iload hx hb d_Model_row_50 (lv_at hl 3 rfl) ?_
        obtain ⟨r_6, hc_6, hf⟩ := q_mb hf
        refine q_pcall (W.runV (As := [.int x3, .int x4]) (rest := [.long x1]) ⟨hx, hb, hml, hown, hts⟩ (c_Model_touch l D ad ki n_mwid n_mput v_mod_code v_mod_steps v_mod_pipes v_mod_items v_mod_least v_mod_most v_mod_hasPlan v_mod_told v_mod_pieces v_mod_planWorth v_mod_planCents v_mwid v_mput x3 x4 N r_6 hc_6) (cwV 2 hts (q_goodV ⟨m_1103, m_1105, m_52, m_64⟩ m_1106) rfl rfl rfl (by decide +kernel) ⟨Nat.le_of_ble_eq_true rfl, Nat.le_of_ble_eq_true rfl⟩) (q_preVP (wc := [(ad 29, .inr (8, [.int v_mod_code, .int v_mod_steps, .ref (ad 30), .int v_mod_pipes, .ref (ad 31), .int v_mod_items, .ref (ad 32), .ref (ad 33), .ref (ad 34), .ref (ad 35), .ref (ad 36), .ref (ad 37), .ref (ad 38), .int v_mod_least, .int v_mod_most, .ref (ad 39), .ref (ad 40), .ref (ad 41), .ref (ad 42), .ref (ad 43), .ref (ad 44), .int (bI v_mod_hasPlan), .int v_mod_told, .ref (ad 45), .int v_mod_pieces, .ref (ad 46), .ref (ad 47), .ref (ad 48), .long v_mod_planWorth, .long v_mod_planCents])), (ad 32, .inl (ki 0, n_mwid, .inl v_mwid)), (ad 39, .inl (ki 0, n_mput, .inl v_mput))]) hE hK hP [0, 1, 4] rfl 0 8 rfl rfl) rfl rfl hl.1 rfl (lv_room (Nat.le_of_ble_eq_true rfl)) d_Model_row_52 ⟨Nat.le_of_ble_eq_true rfl, Nat.le_of_ble_eq_true rfl⟩) ?_
        refine zv_eq (tgt := 73) hx hb d_Model_row_55 (by decide) (fun c_7 => ?_) (fun c_7 => ?_)
        · replace hf := q_ie hf c_7
          refine lv_lconst (v := 0) hx hb d_Model_row_73 (by decide) ?_
          refine lv_ladd hx hb d_Model_row_74 ?_
          refine lv_lstore_n (lv' := [(1, .long (x1 + 0)), (0, .ref (ad 29)), (3, .int x3), (4, .int x4)]) hx hb d_Model_row_75 rfl hl (by decide) rfl (fun ls hl => ?_)
          refine lv_iinc (v := (x4 + 1)) (lv' := [(4, .int (x4 + 1)), (1, .long (x1 + 0)), (0, .ref (ad 29)), (3, .int x3)]) hx hb d_Model_row_76 hl (k := 3) rfl rfl (by decide) rfl (fun ls hl => ?_)
          refine lv_goto (tgt := 41) hx hb d_Model_row_79 (by decide) ?_
          exact (ih).2 (x1 + 0) x3 (x4 + 1) v_mod_code hf _ _ hP hD hS ls (lv_sub hl [2, 1, 3, 0] rfl)
        replace hf := q_it hf c_7
        refine lv_aload_n hx hb d_Model_row_58 rfl (lv_at hl 0 rfl) ?_
        refine va_get (D := D) (ci := 8) (v := .ref (ad 37)) (C := R_Model) (T := F_Model) (N := 30) hx hb hts hn_Model hown hK hP 0 rfl rfl 11 (by decide) hL33 (fun _ h9 => h9) rfl d_Model_row_59 ?_
        refine lv_bipush (v := 6) hx hb d_Model_row_62 (by decide) ?_
        refine lv_iload_n hx hb d_Model_row_64 rfl (lv_at hl 2 rfl) ?_
        refine lv_imul hx hb d_Model_row_65 ?_
        refine lv_iload hx hb d_Model_row_66 (lv_at hl 3 rfl) ?_
        refine lv_iadd hx hb d_Model_row_68 ?_
        obtain ⟨hi_8, hf⟩ := q_ck hf
        refine va_lald hx hb hK hP 3 1 rfl rfl hi_8 d_Model_row_69 ?_
        refine lv_goto (tgt := 74) hx hb d_Model_row_70 (by decide) ?_
        refine lv_ladd hx hb d_Model_row_74 ?_
        refine lv_lstore_n (lv' := [(1, .long (x1 + (v_mnea (Int32.toNatClampNeg ((6 * x3) + x4))))), (0, .ref (ad 29)), (3, .int x3), (4, .int x4)]) hx hb d_Model_row_75 rfl hl (by decide) rfl (fun ls hl => ?_)
        refine lv_iinc (v := (x4 + 1)) (lv' := [(4, .int (x4 + 1)), (1, .long (x1 + (v_mnea (Int32.toNatClampNeg ((6 * x3) + x4))))), (0, .ref (ad 29)), (3, .int x3)]) hx hb d_Model_row_76 hl (k := 3) rfl rfl (by decide) rfl (fun ls hl => ?_)
        refine lv_goto (tgt := 41) hx hb d_Model_row_79 (by decide) ?_
        exact (ih).2 (x1 + (v_mnea (Int32.toNatClampNeg ((6 * x3) + x4)))) x3 (x4 + 1) v_mod_code hf _ _ hP hD hS ls (lv_sub hl [2, 1, 3, 0] rfl)
  unfold f_Model_row at hf
  refine lv_aload_n hx hb d_Model_row_0 rfl (lv_at hl 0 rfl) ?_
  refine lv_iconst (v := 0) hx hb d_Model_row_1 (by decide) ?_
  refine va_put (D := D) (ci := 8) (v := .int 0) (ty := .int) (C := R_Model) (T := F_Model) (N := 30) hx hb hts hn_Model t_Model t_Model_ok n_Model hown hK hP hD hS 0 rfl rfl 0 (by decide) hL76 (fun _ h9 => h9) rfl (by decide +kernel) rfl rfl (Nat.le_of_ble_eq_true rfl) d_Model_row_2 (fun H locs hP hD hS => ?_)
  replace hP : va_P D vwCl [(ad 29, .inr (8, [.int 0, .int v_mod_steps, .ref (ad 30), .int v_mod_pipes, .ref (ad 31), .int v_mod_items, .ref (ad 32), .ref (ad 33), .ref (ad 34), .ref (ad 35), .ref (ad 36), .ref (ad 37), .ref (ad 38), .int v_mod_least, .int v_mod_most, .ref (ad 39), .ref (ad 40), .ref (ad 41), .ref (ad 42), .ref (ad 43), .ref (ad 44), .int (bI v_mod_hasPlan), .int v_mod_told, .ref (ad 45), .int v_mod_pieces, .ref (ad 46), .ref (ad 47), .ref (ad 48), .long v_mod_planWorth, .long v_mod_planCents])), (ad 32, .inl (ki 0, n_mwid, .inl v_mwid)), (ad 33, .inl (ki 1, n_mwor, .inr (.inl v_mwor))), (ad 37, .inl (ki 1, n_mnea, .inr (.inl v_mnea))), (ad 39, .inl (ki 0, n_mput, .inl v_mput))] H := hP
  replace hD : va_D A [(ad 29, .inr (8, [.int 0, .int v_mod_steps, .ref (ad 30), .int v_mod_pipes, .ref (ad 31), .int v_mod_items, .ref (ad 32), .ref (ad 33), .ref (ad 34), .ref (ad 35), .ref (ad 36), .ref (ad 37), .ref (ad 38), .int v_mod_least, .int v_mod_most, .ref (ad 39), .ref (ad 40), .ref (ad 41), .ref (ad 42), .ref (ad 43), .ref (ad 44), .int (bI v_mod_hasPlan), .int v_mod_told, .ref (ad 45), .int v_mod_pieces, .ref (ad 46), .ref (ad 47), .ref (ad 48), .long v_mod_planWorth, .long v_mod_planCents])), (ad 32, .inl (ki 0, n_mwid, .inl v_mwid)), (ad 33, .inl (ki 1, n_mwor, .inr (.inl v_mwor))), (ad 37, .inl (ki 1, n_mnea, .inr (.inl v_mnea))), (ad 39, .inl (ki 0, n_mput, .inl v_mput))] := hD
  refine lv_lconst (v := 0) hx hb d_Model_row_5 (by decide) ?_
  refine lv_lstore_n (lv' := [(1, .long 0), (0, .ref (ad 29))]) hx hb d_Model_row_6 rfl hl (by decide) rfl (fun ls hl => ?_)
  refine lv_iconst (v := 0) hx hb d_Model_row_7 (by decide) ?_
  refine lv_istore_n (lv' := [(3, .int 0), (1, .long 0), (0, .ref (ad 29))]) hx hb d_Model_row_8 rfl hl (by decide) rfl (fun ls hl => ?_)
  exact (key N).1 0 0 0 hf _ _ hP hD hS ls (lv_sub hl [2, 1, 0] rfl)
