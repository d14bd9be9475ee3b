def f_Model_worth (N : Nat) (v_mod_code : Int32) (v_mod_steps : Int32) (v_mod_pipes : Int32) (v_mod_items : Int32) (v_mod_least : Int32) (v_mod_most : Int32) (v_mod_hasPlan : Bool) (v_mod_told : Int32) (v_mod_pieces : Int32) (v_mod_planWorth : Int64) (v_mod_planCents : Int64) (p1 : Int32) : Option (Int64 × Int32) := (Option.bind (f_Model_none N v_mod_code v_mod_steps v_mod_pipes v_mod_items v_mod_least v_mod_most v_mod_hasPlan v_mod_told v_mod_pieces v_mod_planWorth v_mod_planCents) (fun o_1 => match o_1 with | (r_1, v_mod_code_1) => (if r_1 = true then (some (0, v_mod_code_1)) else (Option.bind (f_Model_isIn N (p1).toInt64 0 1) (fun r_3 => (if r_3 = true then (if (0 : Int32) ≤ 0 then (if p1 = 0 then (some (v_mod_planWorth, 0)) else (some (v_mod_planCents, 0))) else (some (0, 0))) else (if (2 : Int32) ≤ 0 then (if p1 = 0 then (some (v_mod_planWorth, 2)) else (some (v_mod_planCents, 2))) else (some (0, 2)))))))))
set_option maxRecDepth 100000 in
set_option maxHeartbeats 4000000 in
theorem c_Model_worth (l : Launch) (D : va_G) (ad : Nat → Nat) (ki : Nat → ClassId) (v_mod_code : Int32) (v_mod_steps : Int32) (v_mod_pipes : Int32) (v_mod_items : Int32) (v_mod_least : Int32) (v_mod_most : Int32) (v_mod_hasPlan : Bool) (v_mod_told : Int32) (v_mod_pieces : Int32) (v_mod_planWorth : Int64) (v_mod_planCents : Int64) (p1 : Int32) (N : Nat) (sz : Nat) (r : Int64) (ov_mod_code : Int32) (hf : f_Model_worth N v_mod_code v_mod_steps v_mod_pipes v_mod_items v_mod_least v_mod_most v_mod_hasPlan v_mod_told v_mod_pieces v_mod_planWorth v_mod_planCents p1 = some (r, ov_mod_code)) : Met l y_Model_worth w_Model_worth { frames := 1, cells := 0, slots := 0, locals := 25 } (q_PcM [.ref (ad 29), .int p1] D vwCl [(ad 29, .inr (8, [.int v_mod_code, .int v_mod_steps, .ref (ad 30), .int v_mod_pipes, .ref (ad 31), .int v_mod_items, .ref (ad 32), .ref (ad 33), .ref (ad 34), .ref (ad 35), .ref (ad 36), .ref (ad 37), .ref (ad 38), .int v_mod_least, .int v_mod_most, .ref (ad 39), .ref (ad 40), .ref (ad 41), .ref (ad 42), .ref (ad 43), .ref (ad 44), .int (bI v_mod_hasPlan), .int v_mod_told, .ref (ad 45), .int v_mod_pieces, .ref (ad 46), .ref (ad 47), .ref (ad 48), .long v_mod_planWorth, .long v_mod_planCents]))] (TYS ki) sz) (q_Qm (some (.long r)) D vwCl [(ad 29, .inr (8, [.int ov_mod_code, .int v_mod_steps, .ref (ad 30), .int v_mod_pipes, .ref (ad 31), .int v_mod_items, .ref (ad 32), .ref (ad 33), .ref (ad 34), .ref (ad 35), .ref (ad 36), .ref (ad 37), .ref (ad 38), .int v_mod_least, .int v_mod_most, .ref (ad 39), .ref (ad 40), .ref (ad 41), .ref (ad 42), .ref (ad 43), .ref (ad 44), .int (bI v_mod_hasPlan), .int v_mod_told, .ref (ad 45), .int v_mod_pieces, .ref (ad 46), .ref (ad 47), .ref (ad 48), .long v_mod_planWorth, .long v_mod_planCents]))] (va_A [(ad 29, .inr (8, [.int v_mod_code, .int v_mod_steps, .ref (ad 30), .int v_mod_pipes, .ref (ad 31), .int v_mod_items, .ref (ad 32), .ref (ad 33), .ref (ad 34), .ref (ad 35), .ref (ad 36), .ref (ad 37), .ref (ad 38), .int v_mod_least, .int v_mod_most, .ref (ad 39), .ref (ad 40), .ref (ad 41), .ref (ad 42), .ref (ad 43), .ref (ad 44), .int (bI v_mod_hasPlan), .int v_mod_told, .ref (ad 45), .int v_mod_pieces, .ref (ad 46), .ref (ad 47), .ref (ad 48), .long v_mod_planWorth, .long v_mod_planCents]))] sz)) 0 0 (va_A [(ad 29, .inr (8, [.int v_mod_code, .int v_mod_steps, .ref (ad 30), .int v_mod_pipes, .ref (ad 31), .int v_mod_items, .ref (ad 32), .ref (ad 33), .ref (ad 34), .ref (ad 35), .ref (ad 36), .ref (ad 37), .ref (ad 38), .int v_mod_least, .int v_mod_most, .ref (ad 39), .ref (ad 40), .ref (ad 41), .ref (ad 42), .ref (ad 43), .ref (ad 44), .int (bI v_mod_hasPlan), .int v_mod_told, .ref (ad 45), .int v_mod_pieces, .ref (ad 46), .ref (ad 47), .ref (ad 48), .long v_mod_planWorth, .long v_mod_planCents]))] sz) := by
  refine Met.ofW (cc := b_Model_worth) (maxL := 2) (ret := (some .long)) (by decide) rfl ?_
  intro p e s m args below meth c s₁ B hml hv
  obtain ⟨rfl, hsz, hP, hK, hD0, hE⟩ := hv
  have hx := B.exec
  have hb := B.bytes
  have hr := B.returns
  have hts := atoms_spec (ws := w_Model_worth) B.pre
  have hown : s.vm.findClass R_Model = some m.cls := findClass_of_methodNamed B.named
  have hlocks := B.notSynchronized
  have hn_Model : ∀ w ∈ u_ws R_Model F_Model 30, w ∈ w_Model_worth := (fun w h => List.mem_cons_of_mem _ (i_Model w h))
  have hL76 := hts (.fieldLink R_Model 76 "RoomFillsModel" "code" "I") (List.mem_cons_of_mem _ m_843)
  have hL168 := hts (.fieldLink R_Model 168 "RoomFillsModel" "planWorth" "J") (List.mem_cons_of_mem _ m_871)
  have hL172 := hts (.fieldLink R_Model 172 "RoomFillsModel" "planCents" "J") (List.mem_cons_of_mem _ m_872)
  subst hsz
  have hD := hD0.self (sz := s.heap.size)
  generalize hAe : va_A [(ad 29, .inr (8, [.int v_mod_code, .int v_mod_steps, .ref (ad 30), .int v_mod_pipes, .ref (ad 31), .int v_mod_items, .ref (ad 32), .ref (ad 33), .ref (ad 34), .ref (ad 35), .ref (ad 36), .ref (ad 37), .ref (ad 38), .int v_mod_least, .int v_mod_most, .ref (ad 39), .ref (ad 40), .ref (ad 41), .ref (ad 42), .ref (ad 43), .ref (ad 44), .int (bI v_mod_hasPlan), .int v_mod_told, .ref (ad 45), .int v_mod_pieces, .ref (ad 46), .ref (ad 47), .ref (ad 48), .long v_mod_planWorth, .long v_mod_planCents]))] s.heap.size = A at hD ⊢
  have hA : ∀ q : Nat, s.heap.size ≤ q → A q := fun q h => by rw [← hAe]; exact Or.inr h
  have hS : va_S A s.heap s.heap [] := va_S.rf
  replace hP : va_P D vwCl [(ad 29, .inr (8, [.int v_mod_code, .int v_mod_steps, .ref (ad 30), .int v_mod_pipes, .ref (ad 31), .int v_mod_items, .ref (ad 32), .ref (ad 33), .ref (ad 34), .ref (ad 35), .ref (ad 36), .ref (ad 37), .ref (ad 38), .int v_mod_least, .int v_mod_most, .ref (ad 39), .ref (ad 40), .ref (ad 41), .ref (ad 42), .ref (ad 43), .ref (ad 44), .int (bI v_mod_hasPlan), .int v_mod_told, .ref (ad 45), .int v_mod_pieces, .ref (ad 46), .ref (ad 47), .ref (ad 48), .long v_mod_planWorth, .long v_mod_planCents]))] s.heap := hP
  have hl := lv_entry ([.ref (ad 29), .int p1]) (n := 2) (Nat.le_of_ble_eq_true rfl)
  rw [lg_entry_eq]
  generalize (lg_sl ([.ref (ad 29), .int p1]) ++ List.replicate (2 - (lg_sl ([.ref (ad 29), .int p1])).length) Slot.unset).toArray = ls at hl ⊢
  replace hl : lv_has ls 2 [(0, .ref (ad 29)), (1, .int p1)] := hl
  unfold f_Model_worth at hf
  refine lv_aload_n hx hb d_Model_worth_0 rfl (lv_at hl 0 rfl) ?_
  obtain ⟨⟨r_1, v_mod_code_1⟩, hc_1, hf⟩ := q_mb hf
  have hC_1 : ([0] : List Nat).map (fun i => ([(ad 29, .inr (8, [.int v_mod_code, .int v_mod_steps, .ref (ad 30), .int v_mod_pipes, .ref (ad 31), .int v_mod_items, .ref (ad 32), .ref (ad 33), .ref (ad 34), .ref (ad 35), .ref (ad 36), .ref (ad 37), .ref (ad 38), .int v_mod_least, .int v_mod_most, .ref (ad 39), .ref (ad 40), .ref (ad 41), .ref (ad 42), .ref (ad 43), .ref (ad 44), .int (bI v_mod_hasPlan), .int v_mod_told, .ref (ad 45), .int v_mod_pieces, .ref (ad 46), .ref (ad 47), .ref (ad 48), .long v_mod_planWorth, .long v_mod_planCents]))] : va_W)[i]?) = ([(ad 29, .inr (8, [.int v_mod_code, .int v_mod_steps, .ref (ad 30), .int v_mod_pipes, .ref (ad 31), .int v_mod_items, .ref (ad 32), .ref (ad 33), .ref (ad 34), .ref (ad 35), .ref (ad 36), .ref (ad 37), .ref (ad 38), .int v_mod_least, .int v_mod_most, .ref (ad 39), .ref (ad 40), .ref (ad 41), .ref (ad 42), .ref (ad 43), .ref (ad 44), .int (bI v_mod_hasPlan), .int v_mod_told, .ref (ad 45), .int v_mod_pieces, .ref (ad 46), .ref (ad 47), .ref (ad 48), .long v_mod_planWorth, .long v_mod_planCents]))] : va_W).map some := rfl
  refine q_mcall3 (w1 := [(ad 29, .inr (8, [.int v_mod_code_1, .int v_mod_steps, .ref (ad 30), .int v_mod_pipes, .ref (ad 31), .int v_mod_items, .ref (ad 32), .ref (ad 33), .ref (ad 34), .ref (ad 35), .ref (ad 36), .ref (ad 37), .ref (ad 38), .int v_mod_least, .int v_mod_most, .ref (ad 39), .ref (ad 40), .ref (ad 41), .ref (ad 42), .ref (ad 43), .ref (ad 44), .int (bI v_mod_hasPlan), .int v_mod_told, .ref (ad 45), .int v_mod_pieces, .ref (ad 46), .ref (ad 47), .ref (ad 48), .long v_mod_planWorth, .long v_mod_planCents]))]) (ws' := [(ad 29, .inr (8, [.int v_mod_code_1, .int v_mod_steps, .ref (ad 30), .int v_mod_pipes, .ref (ad 31), .int v_mod_items, .ref (ad 32), .ref (ad 33), .ref (ad 34), .ref (ad 35), .ref (ad 36), .ref (ad 37), .ref (ad 38), .int v_mod_least, .int v_mod_most, .ref (ad 39), .ref (ad 40), .ref (ad 41), .ref (ad 42), .ref (ad 43), .ref (ad 44), .int (bI v_mod_hasPlan), .int v_mod_told, .ref (ad 45), .int v_mod_pieces, .ref (ad 46), .ref (ad 47), .ref (ad 48), .long v_mod_planWorth, .long v_mod_planCents]))]) (wc := [(ad 29, .inr (8, [.int v_mod_code, .int v_mod_steps, .ref (ad 30), .int v_mod_pipes, .ref (ad 31), .int v_mod_items, .ref (ad 32), .ref (ad 33), .ref (ad 34), .ref (ad 35), .ref (ad 36), .ref (ad 37), .ref (ad 38), .int v_mod_least, .int v_mod_most, .ref (ad 39), .ref (ad 40), .ref (ad 41), .ref (ad 42), .ref (ad 43), .ref (ad 44), .int (bI v_mod_hasPlan), .int v_mod_told, .ref (ad 45), .int v_mod_pieces, .ref (ad 46), .ref (ad 47), .ref (ad 48), .long v_mod_planWorth, .long v_mod_planCents]))]) (va_runV (As := []) (rest := []) ⟨hx, hb, hml, hown, hts⟩ (c_Model_none l D ad ki v_mod_code v_mod_steps v_mod_pipes v_mod_items v_mod_least v_mod_most v_mod_hasPlan v_mod_told v_mod_pieces v_mod_planWorth v_mod_planCents N _ r_1 v_mod_code_1 hc_1) (cwV 0 hts (q_goodV ⟨m_1060, m_1062, m_47, m_64⟩ m_1063) rfl rfl rfl (by decide +kernel) ⟨Nat.le_of_ble_eq_true rfl, Nat.le_of_ble_eq_true rfl⟩) (q_preVM3 hE hK hP hD (by decide +kernel) hC_1 0 8 rfl rfl) rfl rfl hl.1 rfl (lv_room (Nat.le_of_ble_eq_true rfl)) d_Model_worth_1 ⟨Nat.le_of_ble_eq_true rfl, Nat.le_of_ble_eq_true rfl⟩) hP hD hS hA hC_1 [ad 29] rfl rfl (fun H1 h1 hk => (q_c (h1 0 _ rfl) q_n)) rfl (fun H locs hP hD hS => ?_)
  refine zv_eq (tgt := 9) hx hb d_Model_worth_4 (by decide) (fun c_2 => ?_) (fun c_2 => ?_)
  · replace hf := q_ie hf c_2
    refine lv_aload_n hx hb d_Model_worth_9 rfl (lv_at hl 0 rfl) ?_
    refine lv_iload_n hx hb d_Model_worth_10 rfl (lv_at hl 1 rfl) ?_
    refine lv_i2l (v := (p1).toInt64) hx hb d_Model_worth_11 rfl ?_
    refine lv_lconst (v := 0) hx hb d_Model_worth_12 (by decide) ?_
    refine lv_lconst (v := 1) hx hb d_Model_worth_13 (by decide) ?_
    obtain ⟨r_3, hc_3, hf⟩ := q_mb hf
    refine q_pcall (W.runS (As := [.long (p1).toInt64, .long 0, .long 1]) (rest := [.ref (ad 29)]) ⟨hx, hb, hml, hown, hts⟩ (c_Model_isIn l D ad ki (p1).toInt64 0 1 N r_3 hc_3) (va_cwS 3 hts (q_goodS ⟨m_955, m_956, m_64⟩ m_957) rfl rfl rfl (by decide +kernel) ⟨Nat.le_of_ble_eq_true rfl, Nat.le_of_ble_eq_true rfl⟩) (q_preSP (wc := []) hE hK hP [] rfl) rfl rfl hl.1 rfl (lv_room (Nat.le_of_ble_eq_true rfl)) d_Model_worth_14 ⟨Nat.le_of_ble_eq_true rfl, Nat.le_of_ble_eq_true rfl⟩) ?_
    refine zv_eq (tgt := 24) hx hb d_Model_worth_17 (by decide) (fun c_4 => ?_) (fun c_4 => ?_)
    · replace hf := q_ie hf c_4
      refine lv_iconst (v := 2) hx hb d_Model_worth_24 (by decide) ?_
      refine va_put (D := D) (ci := 8) (v := .int 2) (ty := .int) (C := R_Model) (T := F_Model) (N := 30) hx hb hts hn_Model t_Model t_Model_ok n_Model hown hK hP hD hS 0 rfl rfl 0 (by decide) hL76 (fun _ h9 => h9) rfl (by decide +kernel) rfl rfl (Nat.le_of_ble_eq_true rfl) d_Model_worth_25 (fun H locs hP hD hS => ?_)
      replace hP : va_P D vwCl [(ad 29, .inr (8, [.int 2, .int v_mod_steps, .ref (ad 30), .int v_mod_pipes, .ref (ad 31), .int v_mod_items, .ref (ad 32), .ref (ad 33), .ref (ad 34), .ref (ad 35), .ref (ad 36), .ref (ad 37), .ref (ad 38), .int v_mod_least, .int v_mod_most, .ref (ad 39), .ref (ad 40), .ref (ad 41), .ref (ad 42), .ref (ad 43), .ref (ad 44), .int (bI v_mod_hasPlan), .int v_mod_told, .ref (ad 45), .int v_mod_pieces, .ref (ad 46), .ref (ad 47), .ref (ad 48), .long v_mod_planWorth, .long v_mod_planCents]))] H := hP
      replace hD : va_D A [(ad 29, .inr (8, [.int 2, .int v_mod_steps, .ref (ad 30), .int v_mod_pipes, .ref (ad 31), .int v_mod_items, .ref (ad 32), .ref (ad 33), .ref (ad 34), .ref (ad 35), .ref (ad 36), .ref (ad 37), .ref (ad 38), .int v_mod_least, .int v_mod_most, .ref (ad 39), .ref (ad 40), .ref (ad 41), .ref (ad 42), .ref (ad 43), .ref (ad 44), .int (bI v_mod_hasPlan), .int v_mod_told, .ref (ad 45), .int v_mod_pieces, .ref (ad 46), .ref (ad 47), .ref (ad 48), .long v_mod_planWorth, .long v_mod_planCents]))] := hD
      refine lv_aload_n hx hb d_Model_worth_28 rfl (lv_at hl 0 rfl) ?_
      refine va_get (D := D) (ci := 8) (v := .int 2) (C := R_Model) (T := F_Model) (N := 30) hx hb hts hn_Model hown hK hP 0 rfl rfl 0 (by decide) hL76 (fun _ h9 => h9) rfl d_Model_worth_29 ?_
      refine lv_if_le (tgt := 39) hx hb d_Model_worth_32 (by decide) (fun c_5 => ?_) (fun c_5 => ?_)
      · replace hf := q_it hf c_5
        refine lv_iload_n hx hb d_Model_worth_39 rfl (lv_at hl 1 rfl) ?_
        refine lv_if_ne (tgt := 50) hx hb d_Model_worth_40 (by decide) (fun c_6 => ?_) (fun c_6 => ?_)
        · replace hf := q_ie hf c_6
          refine lv_aload_n hx hb d_Model_worth_50 rfl (lv_at hl 0 rfl) ?_
          refine va_get (D := D) (ci := 8) (v := .long v_mod_planCents) (C := R_Model) (T := F_Model) (N := 30) hx hb hts hn_Model hown hK hP 0 rfl rfl 29 (by decide) hL172 (fun _ h9 => h9) rfl d_Model_worth_51 ?_
          cases hf
          first | exact W.lret (v := v_mod_planCents) hx hb hr (fun t ht hW => ⟨rfl, by rw [ht]; exact hP, hS.F ht⟩) hS.2.2 d_Model_worth_54 | exact W.lret (v := r) hx hb hr (fun t ht hW => ⟨rfl, by rw [ht]; exact hP, hS.F ht⟩) hS.2.2 d_Model_worth_54
        replace hf := q_it hf c_6
        refine lv_aload_n hx hb d_Model_worth_43 rfl (lv_at hl 0 rfl) ?_
        refine va_get (D := D) (ci := 8) (v := .long v_mod_planWorth) (C := R_Model) (T := F_Model) (N := 30) hx hb hts hn_Model hown hK hP 0 rfl rfl 28 (by decide) hL168 (fun _ h9 => h9) rfl d_Model_worth_44 ?_
        refine lv_goto (tgt := 54) hx hb d_Model_worth_47 (by decide) ?_
        cases hf
        first | exact W.lret (v := v_mod_planWorth) hx hb hr (fun t ht hW => ⟨rfl, by rw [ht]; exact hP, hS.F ht⟩) hS.2.2 d_Model_worth_54 | exact W.lret (v := r) hx hb hr (fun t ht hW => ⟨rfl, by rw [ht]; exact hP, hS.F ht⟩) hS.2.2 d_Model_worth_54
      replace hf := q_ie hf c_5
      refine lv_lconst (v := 0) hx hb d_Model_worth_35 (by decide) ?_
      refine lv_goto (tgt := 54) hx hb d_Model_worth_36 (by decide) ?_
      cases hf
      exact W.lret (v := 0) hx hb hr (fun t ht hW => ⟨rfl, by rw [ht]; exact hP, hS.F ht⟩) hS.2.2 d_Model_worth_54
    replace hf := q_it hf c_4
    refine lv_iconst (v := 0) hx hb d_Model_worth_20 (by decide) ?_
    refine lv_goto (tgt := 25) hx hb d_Model_worth_21 (by decide) ?_
    refine va_put (D := D) (ci := 8) (v := .int 0) (ty := .int) (C := R_Model) (T := F_Model) (N := 30) hx hb hts hn_Model t_Model t_Model_ok n_Model hown hK hP hD hS 0 rfl rfl 0 (by decide) hL76 (fun _ h9 => h9) rfl (by decide +kernel) rfl rfl (Nat.le_of_ble_eq_true rfl) d_Model_worth_25 (fun H locs hP hD hS => ?_)
    replace hP : va_P D vwCl [(ad 29, .inr (8, [.int 0, .int v_mod_steps, .ref (ad 30), .int v_mod_pipes, .ref (ad 31), .int v_mod_items, .ref (ad 32), .ref (ad 33), .ref (ad 34), .ref (ad 35), .ref (ad 36), .ref (ad 37), .ref (ad 38), .int v_mod_least, .int v_mod_most, .ref (ad 39), .ref (ad 40), .ref (ad 41), .ref (ad 42), .ref (ad 43), .ref (ad 44), .int (bI v_mod_hasPlan), .int v_mod_told, .ref (ad 45), .int v_mod_pieces, .ref (ad 46), .ref (ad 47), .ref (ad 48), .long v_mod_planWorth, .long v_mod_planCents]))] H := hP
    replace hD : va_D A [(ad 29, .inr (8, [.int 0, .int v_mod_steps, .ref (ad 30), .int v_mod_pipes, .ref (ad 31), .int v_mod_items, .ref (ad 32), .ref (ad 33), .ref (ad 34), .ref (ad 35), .ref (ad 36), .ref (ad 37), .ref (ad 38), .int v_mod_least, .int v_mod_most, .ref (ad 39), .ref (ad 40), .ref (ad 41), .ref (ad 42), .ref (ad 43), .ref (ad 44), .int (bI v_mod_hasPlan), .int v_mod_told, .ref (ad 45), .int v_mod_pieces, .ref (ad 46), .ref (ad 47), .ref (ad 48), .long v_mod_planWorth, .long v_mod_planCents]))] := hD
    refine lv_aload_n hx hb d_Model_worth_28 rfl (lv_at hl 0 rfl) ?_
    refine va_get (D := D) (ci := 8) (v := .int 0) (C := R_Model) (T := F_Model) (N := 30) hx hb hts hn_Model hown hK hP 0 rfl rfl 0 (by decide) hL76 (fun _ h9 => h9) rfl d_Model_worth_29 ?_
    refine lv_if_le (tgt := 39) hx hb d_Model_worth_32 (by decide) (fun c_7 => ?_) (fun c_7 => ?_)
    · replace hf := q_it hf c_7
      refine lv_iload_n hx hb d_Model_worth_39 rfl (lv_at hl 1 rfl) ?_
      refine lv_if_ne (tgt := 50) hx hb d_Model_worth_40 (by decide) (fun c_8 => ?_) (fun c_8 => ?_)
      · replace hf := q_ie hf c_8
        refine lv_aload_n hx hb d_Model_worth_50 rfl (lv_at hl 0 rfl) ?_
        refine va_get (D := D) (ci := 8) (v := .long v_mod_planCents) (C := R_Model) (T := F_Model) (N := 30) hx hb hts hn_Model hown hK hP 0 rfl rfl 29 (by decide) hL172 (fun _ h9 => h9) rfl d_Model_worth_51 ?_
        cases hf
        first | exact W.lret (v := v_mod_planCents) hx hb hr (fun t ht hW => ⟨rfl, by rw [ht]; exact hP, hS.F ht⟩) hS.2.2 d_Model_worth_54 | exact W.lret (v := r) hx hb hr (fun t ht hW => ⟨rfl, by rw [ht]; exact hP, hS.F ht⟩) hS.2.2 d_Model_worth_54
      replace hf := q_it hf c_8
      refine lv_aload_n hx hb d_Model_worth_43 rfl (lv_at hl 0 rfl) ?_
      refine va_get (D := D) (ci := 8) (v := .long v_mod_planWorth) (C := R_Model) (T := F_Model) (N := 30) hx hb hts hn_Model hown hK hP 0 rfl rfl 28 (by decide) hL168 (fun _ h9 => h9) rfl d_Model_worth_44 ?_
      refine lv_goto (tgt := 54) hx hb d_Model_worth_47 (by decide) ?_
      cases hf
      first | exact W.lret (v := v_mod_planWorth) hx hb hr (fun t ht hW => ⟨rfl, by rw [ht]; exact hP, hS.F ht⟩) hS.2.2 d_Model_worth_54 | exact W.lret (v := r) hx hb hr (fun t ht hW => ⟨rfl, by rw [ht]; exact hP, hS.F ht⟩) hS.2.2 d_Model_worth_54
    replace hf := q_ie hf c_7
    refine lv_lconst (v := 0) hx hb d_Model_worth_35 (by decide) ?_
    refine lv_goto (tgt := 54) hx hb d_Model_worth_36 (by decide) ?_
    cases hf
    exact W.lret (v := 0) hx hb hr (fun t ht hW => ⟨rfl, by rw [ht]; exact hP, hS.F ht⟩) hS.2.2 d_Model_worth_54
  replace hf := q_it hf c_2
  refine lv_lconst (v := 0) hx hb d_Model_worth_7 (by decide) ?_
  cases hf
  exact W.lret (v := 0) hx hb hr (fun t ht hW => ⟨rfl, by rw [ht]; exact hP, hS.F ht⟩) hS.2.2 d_Model_worth_8
def f_Model_beginsTop (N : Nat) (n_mpa : Nat) (n_mps : Nat) (v_mod_code : Int32) (v_mod_steps : Int32) (v_mod_pipes : Int32) (v_mod_items : Int32) (v_mod_least : Int32) (v_mod_most : Int32) (v_mod_hasPlan : Bool) (v_mod_told : Int32) (v_mod_pieces : Int32) (v_mod_planWorth : Int64) (v_mod_planCents : Int64) (v_mpa : Nat → Int32) (v_mps : Nat → Int32) (p1 : Int32) : Option (Bool) := (if p1 = 0 then (some true) else (if (p1 - 1) < 0 ∨ n_mpa ≤ Int32.toNatClampNeg (p1 - 1) then none else (if (p1 - 1) < 0 ∨ n_mps ≤ Int32.toNatClampNeg (p1 - 1) then none else (if p1 < 0 ∨ n_mpa ≤ Int32.toNatClampNeg p1 then none else (if ((v_mpa (Int32.toNatClampNeg (p1 - 1))) + (v_mps (Int32.toNatClampNeg (p1 - 1)))) = (v_mpa (Int32.toNatClampNeg p1)) then (some false) else (some true))))))
set_option maxRecDepth 100000 in
set_option maxHeartbeats 4000000 in
theorem c_Model_beginsTop (l : Launch) (D : va_G) (ad : Nat → Nat) (ki : Nat → ClassId) (n_mpa : Nat) (n_mps : Nat) (v_mod_code : Int32) (v_mod_steps : Int32) (v_mod_pipes : Int32) (v_mod_items : Int32) (v_mod_least : Int32) (v_mod_most : Int32) (v_mod_hasPlan : Bool) (v_mod_told : Int32) (v_mod_pieces : Int32) (v_mod_planWorth : Int64) (v_mod_planCents : Int64) (v_mpa : Nat → Int32) (v_mps : Nat → Int32) (p1 : Int32) (N : Nat) (r : Bool) (hf : f_Model_beginsTop N n_mpa n_mps v_mod_code v_mod_steps v_mod_pipes v_mod_items v_mod_least v_mod_most v_mod_hasPlan v_mod_told v_mod_pieces v_mod_planWorth v_mod_planCents v_mpa v_mps p1 = some r) : Met l y_Model_beginsTop w_Model_beginsTop { frames := 0, cells := 0, slots := 0, locals := 0 } (q_PcP [.ref (ad 29), .int p1] D vwCl [(ad 29, .inr (8, [.int v_mod_code, .int v_mod_steps, .ref (ad 30), .int v_mod_pipes, .ref (ad 31), .int v_mod_items, .ref (ad 32), .ref (ad 33), .ref (ad 34), .ref (ad 35), .ref (ad 36), .ref (ad 37), .ref (ad 38), .int v_mod_least, .int v_mod_most, .ref (ad 39), .ref (ad 40), .ref (ad 41), .ref (ad 42), .ref (ad 43), .ref (ad 44), .int (bI v_mod_hasPlan), .int v_mod_told, .ref (ad 45), .int v_mod_pieces, .ref (ad 46), .ref (ad 47), .ref (ad 48), .long v_mod_planWorth, .long v_mod_planCents])), (ad 47, .inl (ki 0, n_mpa, .inl v_mpa)), (ad 48, .inl (ki 0, n_mps, .inl v_mps))] (TYS ki)) (k2_QcV (.int (bI r))) 0 0 (fun _ => False) := by
  refine Met.ofW (cc := b_Model_beginsTop) (maxL := 2) (ret := (some .boolean)) (by decide) rfl ?_
  intro p e s m args below meth c s₁ B hml hv
  obtain ⟨rfl, hP, hK, hE⟩ := hv
  have hx := B.exec
  have hb := B.bytes
  have hr := B.returns
  have hts := atoms_spec (ws := w_Model_beginsTop) B.pre
  have hown : s.vm.findClass R_Model = some m.cls := findClass_of_methodNamed B.named
  have hlocks := B.notSynchronized
  have hn_Model : ∀ w ∈ u_ws R_Model F_Model 30, w ∈ w_Model_beginsTop := (fun w h => List.mem_cons_of_mem _ (i_Model w h))
  have hL63 := hts (.fieldLink R_Model 63 "RoomFillsModel" "pieceAt" "[I") (List.mem_cons_of_mem _ m_869)
  have hL66 := hts (.fieldLink R_Model 66 "RoomFillsModel" "pieceSize" "[I") (List.mem_cons_of_mem _ m_870)
  replace hP : va_P D vwCl [(ad 29, .inr (8, [.int v_mod_code, .int v_mod_steps, .ref (ad 30), .int v_mod_pipes, .ref (ad 31), .int v_mod_items, .ref (ad 32), .ref (ad 33), .ref (ad 34), .ref (ad 35), .ref (ad 36), .ref (ad 37), .ref (ad 38), .int v_mod_least, .int v_mod_most, .ref (ad 39), .ref (ad 40), .ref (ad 41), .ref (ad 42), .ref (ad 43), .ref (ad 44), .int (bI v_mod_hasPlan), .int v_mod_told, .ref (ad 45), .int v_mod_pieces, .ref (ad 46), .ref (ad 47), .ref (ad 48), .long v_mod_planWorth, .long v_mod_planCents])), (ad 47, .inl (ki 0, n_mpa, .inl v_mpa)), (ad 48, .inl (ki 0, n_mps, .inl v_mps))] s.heap := hP
  have hl := lv_entry ([.ref (ad 29), .int p1]) (n := 2) (Nat.le_of_ble_eq_true rfl)
  rw [lg_entry_eq]
  generalize (lg_sl ([.ref (ad 29), .int p1]) ++ List.replicate (2 - (lg_sl ([.ref (ad 29), .int p1])).length) Slot.unset).toArray = ls at hl ⊢
  replace hl : lv_has ls 2 [(0, .ref (ad 29)), (1, .int p1)] := hl
  unfold f_Model_beginsTop at hf
  refine lv_iload_n hx hb d_Model_beginsTop_0 rfl (lv_at hl 1 rfl) ?_
  refine lv_if_eq (tgt := 30) hx hb d_Model_beginsTop_1 (by decide) (fun c_1 => ?_) (fun c_1 => ?_)
  · replace hf := q_it hf c_1
    refine lv_iconst (v := 1) hx hb d_Model_beginsTop_30 (by decide) ?_
    refine lv_goto (tgt := 35) hx hb d_Model_beginsTop_31 (by decide) ?_
    cases hf
    exact W.zret (v := bI true) hx hb hr (bI_nar _) (fun t ht hW => ⟨rfl, ht⟩) (fun q h => nomatch h) d_Model_beginsTop_35
  replace hf := q_ie hf c_1
  refine lv_aload_n hx hb d_Model_beginsTop_4 rfl (lv_at hl 0 rfl) ?_
  refine va_get (D := D) (ci := 8) (v := .ref (ad 47)) (C := R_Model) (T := F_Model) (N := 30) hx hb hts hn_Model hown hK hP 0 rfl rfl 26 (by decide) hL63 (fun _ h9 => h9) rfl d_Model_beginsTop_5 ?_
  refine lv_iload_n hx hb d_Model_beginsTop_8 rfl (lv_at hl 1 rfl) ?_
  refine lv_iconst (v := 1) hx hb d_Model_beginsTop_9 (by decide) ?_
  refine lv_isub hx hb d_Model_beginsTop_10 ?_
  obtain ⟨hi_2, hf⟩ := q_ck hf
  refine va_iald hx hb hK hP 1 0 rfl rfl hi_2 d_Model_beginsTop_11 ?_
  refine lv_aload_n hx hb d_Model_beginsTop_12 rfl (lv_at hl 0 rfl) ?_
  refine va_get (D := D) (ci := 8) (v := .ref (ad 48)) (C := R_Model) (T := F_Model) (N := 30) hx hb hts hn_Model hown hK hP 0 rfl rfl 27 (by decide) hL66 (fun _ h9 => h9) rfl d_Model_beginsTop_13 ?_
  refine lv_iload_n hx hb d_Model_beginsTop_16 rfl (lv_at hl 1 rfl) ?_
  refine lv_iconst (v := 1) hx hb d_Model_beginsTop_17 (by decide) ?_
  refine lv_isub hx hb d_Model_beginsTop_18 ?_
  obtain ⟨hi_3, hf⟩ := q_ck hf
  refine va_iald hx hb hK hP 2 0 rfl rfl hi_3 d_Model_beginsTop_19 ?_
  refine lv_iadd hx hb d_Model_beginsTop_20 ?_
  refine lv_aload_n hx hb d_Model_beginsTop_21 rfl (lv_at hl 0 rfl) ?_
  refine va_get (D := D) (ci := 8) (v := .ref (ad 47)) (C := R_Model) (T := F_Model) (N := 30) hx hb hts hn_Model hown hK hP 0 rfl rfl 26 (by decide) hL63 (fun _ h9 => h9) rfl d_Model_beginsTop_22 ?_
  refine lv_iload_n hx hb d_Model_beginsTop_25 rfl (lv_at hl 1 rfl) ?_
  obtain ⟨hi_4, hf⟩ := q_ck hf
  refine va_iald hx hb hK hP 1 0 rfl rfl hi_4 d_Model_beginsTop_26 ?_
  refine lv_icmp_eq (tgt := 34) hx hb d_Model_beginsTop_27 (by decide) (fun c_5 => ?_) (fun c_5 => ?_)
  · replace hf := q_it hf c_5
    refine lv_iconst (v := 0) hx hb d_Model_beginsTop_34 (by decide) ?_
    cases hf
    exact W.zret (v := bI false) hx hb hr (bI_nar _) (fun t ht hW => ⟨rfl, ht⟩) (fun q h => nomatch h) d_Model_beginsTop_35
  replace hf := q_ie hf c_5
  refine lv_iconst (v := 1) hx hb d_Model_beginsTop_30 (by decide) ?_
  refine lv_goto (tgt := 35) hx hb d_Model_beginsTop_31 (by decide) ?_
  cases hf
  exact W.zret (v := bI true) hx hb hr (bI_nar _) (fun t ht hW => ⟨rfl, ht⟩) (fun q h => nomatch h) d_Model_beginsTop_35
def f_Model_top_cut (N : Nat) (n_mpa : Nat) (n_mps : Nat) (v_mod_steps : Int32) (v_mod_pipes : Int32) (v_mod_items : Int32) (v_mod_least : Int32) (v_mod_most : Int32) (v_mod_hasPlan : Bool) (v_mod_told : Int32) (v_mod_pieces : Int32) (v_mod_planWorth : Int64) (v_mod_planCents : Int64) (v_mpa : Nat → Int32) (v_mps : Nat → Int32) : Nat → Nat → Int32 → Int32 → Int32 → Int32 → Int32 → Int32 → (Int32) → Option (Int32 × Int32)
  | 0, _, _, _, _, _, _, _, _ => none
  | n + 1, t, x1, x2, x3, x4, x5, x6, v_mod_code => (if v_mod_pieces ≤ x6 then (if x1 < ((-1) : Int32) then (if (2 : Int32) ≤ 0 then (if x1 = ((-1) : Int32) then (some (x3, 2)) else (if x2 = 0 then (some (x4, 2)) else (some (x5, 2)))) else (some (0, 2))) else (if x1 < x3 then (Option.bind (f_Model_isIn N (x2).toInt64 0 1) (fun r_7 => (if r_7 = true then (if (0 : Int32) ≤ 0 then (if x1 = ((-1) : Int32) then (some (x3, 0)) else (if x2 = 0 then (some (x4, 0)) else (some (x5, 0)))) else (some (0, 0))) else (if (3 : Int32) ≤ 0 then (if x1 = ((-1) : Int32) then (some (x3, 3)) else (if x2 = 0 then (some (x4, 3)) else (some (x5, 3)))) else (some (0, 3)))))) else (if (2 : Int32) ≤ 0 then (if x1 = ((-1) : Int32) then (some (x3, 2)) else (if x2 = 0 then (some (x4, 2)) else (some (x5, 2)))) else (some (0, 2))))) else (Option.bind (f_Model_beginsTop N n_mpa n_mps v_mod_code v_mod_steps v_mod_pipes v_mod_items v_mod_least v_mod_most v_mod_hasPlan v_mod_told v_mod_pieces v_mod_planWorth v_mod_planCents v_mpa v_mps x6) (fun r_18 => (if r_18 = true then (if x3 = x1 then (if x6 < 0 ∨ n_mpa ≤ Int32.toNatClampNeg x6 then none else (if ((x3 + 1) - 1) = x1 then (if x6 < 0 ∨ n_mps ≤ Int32.toNatClampNeg x6 then none else (f_Model_top_cut N n_mpa n_mps v_mod_steps v_mod_pipes v_mod_items v_mod_least v_mod_most v_mod_hasPlan v_mod_told v_mod_pieces v_mod_planWorth v_mod_planCents v_mpa v_mps n 0 x1 x2 (x3 + 1) (v_mpa (Int32.toNatClampNeg x6)) (x5 + (v_mps (Int32.toNatClampNeg x6))) (x6 + 1) v_mod_code)) else (f_Model_top_cut N n_mpa n_mps v_mod_steps v_mod_pipes v_mod_items v_mod_least v_mod_most v_mod_hasPlan v_mod_told v_mod_pieces v_mod_planWorth v_mod_planCents v_mpa v_mps n 0 x1 x2 (x3 + 1) (v_mpa (Int32.toNatClampNeg x6)) x5 (x6 + 1) v_mod_code))) else (if ((x3 + 1) - 1) = x1 then (if x6 < 0 ∨ n_mps ≤ Int32.toNatClampNeg x6 then none else (f_Model_top_cut N n_mpa n_mps v_mod_steps v_mod_pipes v_mod_items v_mod_least v_mod_most v_mod_hasPlan v_mod_told v_mod_pieces v_mod_planWorth v_mod_planCents v_mpa v_mps n 0 x1 x2 (x3 + 1) x4 (x5 + (v_mps (Int32.toNatClampNeg x6))) (x6 + 1) v_mod_code)) else (f_Model_top_cut N n_mpa n_mps v_mod_steps v_mod_pipes v_mod_items v_mod_least v_mod_most v_mod_hasPlan v_mod_told v_mod_pieces v_mod_planWorth v_mod_planCents v_mpa v_mps n 0 x1 x2 (x3 + 1) x4 x5 (x6 + 1) v_mod_code))) else (if (x3 - 1) = x1 then (if x6 < 0 ∨ n_mps ≤ Int32.toNatClampNeg x6 then none else (f_Model_top_cut N n_mpa n_mps v_mod_steps v_mod_pipes v_mod_items v_mod_least v_mod_most v_mod_hasPlan v_mod_told v_mod_pieces v_mod_planWorth v_mod_planCents v_mpa v_mps n 0 x1 x2 x3 x4 (x5 + (v_mps (Int32.toNatClampNeg x6))) (x6 + 1) v_mod_code)) else (f_Model_top_cut N n_mpa n_mps v_mod_steps v_mod_pipes v_mod_items v_mod_least v_mod_most v_mod_hasPlan v_mod_told v_mod_pieces v_mod_planWorth v_mod_planCents v_mpa v_mps n 0 x1 x2 x3 x4 x5 (x6 + 1) v_mod_code))))))
theorem f_Model_top_cut_0 (N : Nat) (n_mpa : Nat) (n_mps : Nat) (v_mod_steps : Int32) (v_mod_pipes : Int32) (v_mod_items : Int32) (v_mod_least : Int32) (v_mod_most : Int32) (v_mod_hasPlan : Bool) (v_mod_told : Int32) (v_mod_pieces : Int32) (v_mod_planWorth : Int64) (v_mod_planCents : Int64) (v_mpa : Nat → Int32) (v_mps : Nat → Int32) (n : Nat) (x1 : Int32) (x2 : Int32) (x3 : Int32) (x4 : Int32) (x5 : Int32) (x6 : Int32) (v_mod_code : Int32) : f_Model_top_cut N n_mpa n_mps v_mod_steps v_mod_pipes v_mod_items v_mod_least v_mod_most v_mod_hasPlan v_mod_told v_mod_pieces v_mod_planWorth v_mod_planCents v_mpa v_mps (n + 1) 0 x1 x2 x3 x4 x5 x6 v_mod_code = (if v_mod_pieces ≤ x6 then (if x1 < ((-1) : Int32) then (if (2 : Int32) ≤ 0 then (if x1 = ((-1) : Int32) then (some (x3, 2)) else (if x2 = 0 then (some (x4, 2)) else (some (x5, 2)))) else (some (0, 2))) else (if x1 < x3 then (Option.bind (f_Model_isIn N (x2).toInt64 0 1) (fun r_7 => (if r_7 = true then (if (0 : Int32) ≤ 0 then (if x1 = ((-1) : Int32) then (some (x3, 0)) else (if x2 = 0 then (some (x4, 0)) else (some (x5, 0)))) else (some (0, 0))) else (if (3 : Int32) ≤ 0 then (if x1 = ((-1) : Int32) then (some (x3, 3)) else (if x2 = 0 then (some (x4, 3)) else (some (x5, 3)))) else (some (0, 3)))))) else (if (2 : Int32) ≤ 0 then (if x1 = ((-1) : Int32) then (some (x3, 2)) else (if x2 = 0 then (some (x4, 2)) else (some (x5, 2)))) else (some (0, 2))))) else (Option.bind (f_Model_beginsTop N n_mpa n_mps v_mod_code v_mod_steps v_mod_pipes v_mod_items v_mod_least v_mod_most v_mod_hasPlan v_mod_told v_mod_pieces v_mod_planWorth v_mod_planCents v_mpa v_mps x6) (fun r_18 => (if r_18 = true then (if x3 = x1 then (if x6 < 0 ∨ n_mpa ≤ Int32.toNatClampNeg x6 then none else (if ((x3 + 1) - 1) = x1 then (if x6 < 0 ∨ n_mps ≤ Int32.toNatClampNeg x6 then none else (f_Model_top_cut N n_mpa n_mps v_mod_steps v_mod_pipes v_mod_items v_mod_least v_mod_most v_mod_hasPlan v_mod_told v_mod_pieces v_mod_planWorth v_mod_planCents v_mpa v_mps n 0 x1 x2 (x3 + 1) (v_mpa (Int32.toNatClampNeg x6)) (x5 + (v_mps (Int32.toNatClampNeg x6))) (x6 + 1) v_mod_code)) else (f_Model_top_cut N n_mpa n_mps v_mod_steps v_mod_pipes v_mod_items v_mod_least v_mod_most v_mod_hasPlan v_mod_told v_mod_pieces v_mod_planWorth v_mod_planCents v_mpa v_mps n 0 x1 x2 (x3 + 1) (v_mpa (Int32.toNatClampNeg x6)) x5 (x6 + 1) v_mod_code))) else (if ((x3 + 1) - 1) = x1 then (if x6 < 0 ∨ n_mps ≤ Int32.toNatClampNeg x6 then none else (f_Model_top_cut N n_mpa n_mps v_mod_steps v_mod_pipes v_mod_items v_mod_least v_mod_most v_mod_hasPlan v_mod_told v_mod_pieces v_mod_planWorth v_mod_planCents v_mpa v_mps n 0 x1 x2 (x3 + 1) x4 (x5 + (v_mps (Int32.toNatClampNeg x6))) (x6 + 1) v_mod_code)) else (f_Model_top_cut N n_mpa n_mps v_mod_steps v_mod_pipes v_mod_items v_mod_least v_mod_most v_mod_hasPlan v_mod_told v_mod_pieces v_mod_planWorth v_mod_planCents v_mpa v_mps n 0 x1 x2 (x3 + 1) x4 x5 (x6 + 1) v_mod_code))) else (if (x3 - 1) = x1 then (if x6 < 0 ∨ n_mps ≤ Int32.toNatClampNeg x6 then none else (f_Model_top_cut N n_mpa n_mps v_mod_steps v_mod_pipes v_mod_items v_mod_least v_mod_most v_mod_hasPlan v_mod_told v_mod_pieces v_mod_planWorth v_mod_planCents v_mpa v_mps n 0 x1 x2 x3 x4 (x5 + (v_mps (Int32.toNatClampNeg x6))) (x6 + 1) v_mod_code)) else (f_Model_top_cut N n_mpa n_mps v_mod_steps v_mod_pipes v_mod_items v_mod_least v_mod_most v_mod_hasPlan v_mod_told v_mod_pieces v_mod_planWorth v_mod_planCents v_mpa v_mps n 0 x1 x2 x3 x4 x5 (x6 + 1) v_mod_code)))))) := rfl
def f_Model_top (N : Nat) (n_mpa : Nat) (n_mps : Nat) (v_mod_code : Int32) (v_mod_steps : Int32) (v_mod_pipes : Int32) (v_mod_items : Int32) (v_mod_least : Int32) (v_mod_most : Int32) (v_mod_hasPlan : Bool) (v_mod_told : Int32) (v_mod_pieces : Int32) (v_mod_planWorth : Int64) (v_mod_planCents : Int64) (v_mpa : Nat → Int32) (v_mps : Nat → Int32) (p1 : Int32) (p2 : Int32) : Option (Int32 × Int32) := (Option.bind (f_Model_none N v_mod_code v_mod_steps v_mod_pipes v_mod_items v_mod_least v_mod_most v_mod_hasPlan v_mod_told v_mod_pieces v_mod_planWorth v_mod_planCents) (fun o_28 => match o_28 with | (r_28, v_mod_code_28) => (if r_28 = true then (some (0, v_mod_code_28)) else (f_Model_top_cut N n_mpa n_mps v_mod_steps v_mod_pipes v_mod_items v_mod_least v_mod_most v_mod_hasPlan v_mod_told v_mod_pieces v_mod_planWorth v_mod_planCents v_mpa v_mps N 0 p1 p2 0 0 0 0 v_mod_code_28))))
set_option maxRecDepth 100000 in
set_option maxHeartbeats 4000000 in
theorem c_Model_top (l : Launch) (D : va_G) (ad : Nat → Nat) (ki : Nat → ClassId) (n_mpa : Nat) (n_mps : Nat) (v_mod_code : Int32) (v_mod_steps : Int32) (v_mod_pipes : Int32) (v_mod_items : Int32) (v_mod_least : Int32) (v_mod_most : Int32) (v_mod_hasPlan : Bool) (v_mod_told : Int32) (v_mod_pieces : Int32) (v_mod_planWorth : Int64) (v_mod_planCents : Int64) (v_mpa : Nat → Int32) (v_mps : Nat → Int32) (p1 : Int32) (p2 : Int32) (N : Nat) (sz : Nat) (r : Int32) (ov_mod_code : Int32) (hf : f_Model_top N n_mpa n_mps v_mod_code v_mod_steps v_mod_pipes v_mod_items v_mod_least v_mod_most v_mod_hasPlan v_mod_told v_mod_pieces v_mod_planWorth v_mod_planCents v_mpa v_mps p1 p2 = some (r, ov_mod_code)) : Met l y_Model_top w_Model_top { frames := 1, cells := 0, slots := 0, locals := 25 } (q_PcM [.ref (ad 29), .int p1, .int p2] D vwCl [(ad 29, .inr (8, [.int v_mod_code, .int v_mod_steps, .ref (ad 30), .int v_mod_pipes, .ref (ad 31), .int v_mod_items, .ref (ad 32), .ref (ad 33), .ref (ad 34), .ref (ad 35), .ref (ad 36), .ref (ad 37), .ref (ad 38), .int v_mod_least, .int v_mod_most, .ref (ad 39), .ref (ad 40), .ref (ad 41), .ref (ad 42), .ref (ad 43), .ref (ad 44), .int (bI v_mod_hasPlan), .int v_mod_told, .ref (ad 45), .int v_mod_pieces, .ref (ad 46), .ref (ad 47), .ref (ad 48), .long v_mod_planWorth, .long v_mod_planCents])), (ad 47, .inl (ki 0, n_mpa, .inl v_mpa)), (ad 48, .inl (ki 0, n_mps, .inl v_mps))] (TYS ki) sz) (q_Qm (some (.int r)) D vwCl [(ad 29, .inr (8, [.int ov_mod_code, .int v_mod_steps, .ref (ad 30), .int v_mod_pipes, .ref (ad 31), .int v_mod_items, .ref (ad 32), .ref (ad 33), .ref (ad 34), .ref (ad 35), .ref (ad 36), .ref (ad 37), .ref (ad 38), .int v_mod_least, .int v_mod_most, .ref (ad 39), .ref (ad 40), .ref (ad 41), .ref (ad 42), .ref (ad 43), .ref (ad 44), .int (bI v_mod_hasPlan), .int v_mod_told, .ref (ad 45), .int v_mod_pieces, .ref (ad 46), .ref (ad 47), .ref (ad 48), .long v_mod_planWorth, .long v_mod_planCents])), (ad 47, .inl (ki 0, n_mpa, .inl v_mpa)), (ad 48, .inl (ki 0, n_mps, .inl v_mps))] (va_A [(ad 29, .inr (8, [.int v_mod_code, .int v_mod_steps, .ref (ad 30), .int v_mod_pipes, .ref (ad 31), .int v_mod_items, .ref (ad 32), .ref (ad 33), .ref (ad 34), .ref (ad 35), .ref (ad 36), .ref (ad 37), .ref (ad 38), .int v_mod_least, .int v_mod_most, .ref (ad 39), .ref (ad 40), .ref (ad 41), .ref (ad 42), .ref (ad 43), .ref (ad 44), .int (bI v_mod_hasPlan), .int v_mod_told, .ref (ad 45), .int v_mod_pieces, .ref (ad 46), .ref (ad 47), .ref (ad 48), .long v_mod_planWorth, .long v_mod_planCents])), (ad 47, .inl (ki 0, n_mpa, .inl v_mpa)), (ad 48, .inl (ki 0, n_mps, .inl v_mps))] sz)) 0 0 (va_A [(ad 29, .inr (8, [.int v_mod_code, .int v_mod_steps, .ref (ad 30), .int v_mod_pipes, .ref (ad 31), .int v_mod_items, .ref (ad 32), .ref (ad 33), .ref (ad 34), .ref (ad 35), .ref (ad 36), .ref (ad 37), .ref (ad 38), .int v_mod_least, .int v_mod_most, .ref (ad 39), .ref (ad 40), .ref (ad 41), .ref (ad 42), .ref (ad 43), .ref (ad 44), .int (bI v_mod_hasPlan), .int v_mod_told, .ref (ad 45), .int v_mod_pieces, .ref (ad 46), .ref (ad 47), .ref (ad 48), .long v_mod_planWorth, .long v_mod_planCents])), (ad 47, .inl (ki 0, n_mpa, .inl v_mpa)), (ad 48, .inl (ki 0, n_mps, .inl v_mps))] sz) := by
  refine Met.ofW (cc := b_Model_top) (maxL := 7) (ret := (some .int)) (by decide) rfl ?_
  intro p e s m args below meth c s₁ B hml hv
  obtain ⟨rfl, hsz, hP, hK, hD0, hE⟩ := hv
  have hx := B.exec
  have hb := B.bytes
  have hr := B.returns
  have hts := atoms_spec (ws := w_Model_top) B.pre
  have hown : s.vm.findClass R_Model = some m.cls := findClass_of_methodNamed B.named
  have hlocks := B.notSynchronized
  have hn_Model : ∀ w ∈ u_ws R_Model F_Model 30, w ∈ w_Model_top := (fun w h => List.mem_cons_of_mem _ (i_Model w h))
  have hL63 := hts (.fieldLink R_Model 63 "RoomFillsModel" "pieceAt" "[I") (List.mem_cons_of_mem _ m_869)
  have hL66 := hts (.fieldLink R_Model 66 "RoomFillsModel" "pieceSize" "[I") (List.mem_cons_of_mem _ m_870)
  have hL76 := hts (.fieldLink R_Model 76 "RoomFillsModel" "code" "I") (List.mem_cons_of_mem _ m_843)
  have hL149 := hts (.fieldLink R_Model 149 "RoomFillsModel" "pieces" "I") (List.mem_cons_of_mem _ m_867)
  subst hsz
  have hD := hD0.self (sz := s.heap.size)
  generalize hAe : va_A [(ad 29, .inr (8, [.int v_mod_code, .int v_mod_steps, .ref (ad 30), .int v_mod_pipes, .ref (ad 31), .int v_mod_items, .ref (ad 32), .ref (ad 33), .ref (ad 34), .ref (ad 35), .ref (ad 36), .ref (ad 37), .ref (ad 38), .int v_mod_least, .int v_mod_most, .ref (ad 39), .ref (ad 40), .ref (ad 41), .ref (ad 42), .ref (ad 43), .ref (ad 44), .int (bI v_mod_hasPlan), .int v_mod_told, .ref (ad 45), .int v_mod_pieces, .ref (ad 46), .ref (ad 47), .ref (ad 48), .long v_mod_planWorth, .long v_mod_planCents])), (ad 47, .inl (ki 0, n_mpa, .inl v_mpa)), (ad 48, .inl (ki 0, n_mps, .inl v_mps))] s.heap.size = A at hD ⊢
  have hA : ∀ q : Nat, s.heap.size ≤ q → A q := fun q h => by rw [← hAe]; exact Or.inr h
  have hS : va_S A s.heap s.heap [] := va_S.rf
  replace hP : va_P D vwCl [(ad 29, .inr (8, [.int v_mod_code, .int v_mod_steps, .ref (ad 30), .int v_mod_pipes, .ref (ad 31), .int v_mod_items, .ref (ad 32), .ref (ad 33), .ref (ad 34), .ref (ad 35), .ref (ad 36), .ref (ad 37), .ref (ad 38), .int v_mod_least, .int v_mod_most, .ref (ad 39), .ref (ad 40), .ref (ad 41), .ref (ad 42), .ref (ad 43), .ref (ad 44), .int (bI v_mod_hasPlan), .int v_mod_told, .ref (ad 45), .int v_mod_pieces, .ref (ad 46), .ref (ad 47), .ref (ad 48), .long v_mod_planWorth, .long v_mod_planCents])), (ad 47, .inl (ki 0, n_mpa, .inl v_mpa)), (ad 48, .inl (ki 0, n_mps, .inl v_mps))] s.heap := hP
  have hl := lv_entry ([.ref (ad 29), .int p1, .int p2]) (n := 7) (Nat.le_of_ble_eq_true rfl)
  rw [lg_entry_eq]
  generalize (lg_sl ([.ref (ad 29), .int p1, .int p2]) ++ List.replicate (7 - (lg_sl ([.ref (ad 29), .int p1, .int p2])).length) Slot.unset).toArray = ls at hl ⊢
  replace hl : lv_has ls 7 [(0, .ref (ad 29)), (1, .int p1), (2, .int p2)] := hl
  have key : ∀ n : Nat, (∀ (x1 : Int32) (x2 : Int32) (x3 : Int32) (x4 : Int32) (x5 : Int32) (x6 : Int32) (v_mod_code : Int32), f_Model_top_cut N n_mpa n_mps v_mod_steps v_mod_pipes v_mod_items v_mod_least v_mod_most v_mod_hasPlan v_mod_told v_mod_pieces v_mod_planWorth v_mod_planCents v_mpa v_mps n 0 x1 x2 x3 x4 x5 x6 v_mod_code = some (r, ov_mod_code) → ∀ (H : Heap) (locs : List Loc), va_P D vwCl [(ad 29, .inr (8, [.int v_mod_code, .int v_mod_steps, .ref (ad 30), .int v_mod_pipes, .ref (ad 31), .int v_mod_items, .ref (ad 32), .ref (ad 33), .ref (ad 34), .ref (ad 35), .ref (ad 36), .ref (ad 37), .ref (ad 38), .int v_mod_least, .int v_mod_most, .ref (ad 39), .ref (ad 40), .ref (ad 41), .ref (ad 42), .ref (ad 43), .ref (ad 44), .int (bI v_mod_hasPlan), .int v_mod_told, .ref (ad 45), .int v_mod_pieces, .ref (ad 46), .ref (ad 47), .ref (ad 48), .long v_mod_planWorth, .long v_mod_planCents])), (ad 47, .inl (ki 0, n_mpa, .inl v_mpa)), (ad 48, .inl (ki 0, n_mps, .inl v_mps))] H → va_D A [(ad 29, .inr (8, [.int v_mod_code, .int v_mod_steps, .ref (ad 30), .int v_mod_pipes, .ref (ad 31), .int v_mod_items, .ref (ad 32), .ref (ad 33), .ref (ad 34), .ref (ad 35), .ref (ad 36), .ref (ad 37), .ref (ad 38), .int v_mod_least, .int v_mod_most, .ref (ad 39), .ref (ad 40), .ref (ad 41), .ref (ad 42), .ref (ad 43), .ref (ad 44), .int (bI v_mod_hasPlan), .int v_mod_told, .ref (ad 45), .int v_mod_pieces, .ref (ad 46), .ref (ad 47), .ref (ad 48), .long v_mod_planWorth, .long v_mod_planCents])), (ad 47, .inl (ki 0, n_mpa, .inl v_mpa)), (ad 48, .inl (ki 0, n_mps, .inl v_mps))] → va_S A s.heap H locs → ∀ (ls : Array Slot), lv_has ls 7 [(0, .ref (ad 29)), (1, .int x1), (2, .int x2), (3, .int x3), (4, .int x4), (5, .int x5), (6, .int x6)] → W p l e (headSpec w_Model_top { frames := 1, cells := 0, slots := 0, locals := 25 }).room s m ([.ref (ad 29), .int p1, .int p2] : List Value).toArray below meth c H locs 0 0 (MQ below (q_Qm (some (.int r)) D vwCl [(ad 29, .inr (8, [.int ov_mod_code, .int v_mod_steps, .ref (ad 30), .int v_mod_pipes, .ref (ad 31), .int v_mod_items, .ref (ad 32), .ref (ad 33), .ref (ad 34), .ref (ad 35), .ref (ad 36), .ref (ad 37), .ref (ad 38), .int v_mod_least, .int v_mod_most, .ref (ad 39), .ref (ad 40), .ref (ad 41), .ref (ad 42), .ref (ad 43), .ref (ad 44), .int (bI v_mod_hasPlan), .int v_mod_told, .ref (ad 45), .int v_mod_pieces, .ref (ad 46), .ref (ad 47), .ref (ad 48), .long v_mod_planWorth, .long v_mod_planCents])), (ad 47, .inl (ki 0, n_mpa, .inl v_mpa)), (ad 48, .inl (ki 0, n_mps, .inl v_mps))] A) ([.ref (ad 29), .int p1, .int p2] : List Value).toArray s 0 0 A) (F0 m 20 ls [])) := by
    intro n
    induction n with
    | zero =>
      exact fun x1 x2 x3 x4 x5 x6 v_mod_code hf => (nomatch (show none = some _ from hf))
    | succ n ih =>
      intro x1 x2 x3 x4 x5 x6 v_mod_code hf H locs hP hD hS ls hl
      rw [f_Model_top_cut_0] at hf
      refine lv_iload hx hb d_Model_top_20 (lv_at hl 6 rfl) ?_
      refine lv_aload_n hx hb d_Model_top_22 rfl (lv_at hl 0 rfl) ?_
      refine va_get (D := D) (ci := 8) (v := .int v_mod_pieces) (C := R_Model) (T := F_Model) (N := 30) hx hb hts hn_Model hown hK hP 0 rfl rfl 24 (by decide) hL149 (fun _ h9 => h9) rfl d_Model_top_23 ?_
      refine lv_icmp_ge (tgt := 90) hx hb d_Model_top_26 (by decide) (fun c_1 => ?_) (fun c_1 => ?_)
      · replace hf := q_it hf c_1
        refine lv_aload_n hx hb d_Model_top_90 rfl (lv_at hl 0 rfl) ?_
        refine lv_iload_n hx hb d_Model_top_91 rfl (lv_at hl 1 rfl) ?_
        refine lv_iconst (v := (-1)) hx hb d_Model_top_92 (by decide) ?_
        refine lv_icmp_lt (tgt := 101) hx hb d_Model_top_93 (by decide) (fun c_2 => ?_) (fun c_2 => ?_)
        · replace hf := q_it hf c_2
          refine lv_iconst (v := 2) hx hb d_Model_top_101 (by decide) ?_
          refine lv_goto (tgt := 120) hx hb d_Model_top_102 (by decide) ?_
          refine va_put (D := D) (ci := 8) (v := .int 2) (ty := .int) (C := R_Model) (T := F_Model) (N := 30) hx hb hts hn_Model t_Model t_Model_ok n_Model hown hK hP hD hS 0 rfl rfl 0 (by decide) hL76 (fun _ h9 => h9) rfl (by decide +kernel) rfl rfl (Nat.le_of_ble_eq_true rfl) d_Model_top_120 (fun H locs hP hD hS => ?_)
          replace hP : va_P D vwCl [(ad 29, .inr (8, [.int 2, .int v_mod_steps, .ref (ad 30), .int v_mod_pipes, .ref (ad 31), .int v_mod_items, .ref (ad 32), .ref (ad 33), .ref (ad 34), .ref (ad 35), .ref (ad 36), .ref (ad 37), .ref (ad 38), .int v_mod_least, .int v_mod_most, .ref (ad 39), .ref (ad 40), .ref (ad 41), .ref (ad 42), .ref (ad 43), .ref (ad 44), .int (bI v_mod_hasPlan), .int v_mod_told, .ref (ad 45), .int v_mod_pieces, .ref (ad 46), .ref (ad 47), .ref (ad 48), .long v_mod_planWorth, .long v_mod_planCents])), (ad 47, .inl (ki 0, n_mpa, .inl v_mpa)), (ad 48, .inl (ki 0, n_mps, .inl v_mps))] H := hP
          replace hD : va_D A [(ad 29, .inr (8, [.int 2, .int v_mod_steps, .ref (ad 30), .int v_mod_pipes, .ref (ad 31), .int v_mod_items, .ref (ad 32), .ref (ad 33), .ref (ad 34), .ref (ad 35), .ref (ad 36), .ref (ad 37), .ref (ad 38), .int v_mod_least, .int v_mod_most, .ref (ad 39), .ref (ad 40), .ref (ad 41), .ref (ad 42), .ref (ad 43), .ref (ad 44), .int (bI v_mod_hasPlan), .int v_mod_told, .ref (ad 45), .int v_mod_pieces, .ref (ad 46), .ref (ad 47), .ref (ad 48), .long v_mod_planWorth, .long v_mod_planCents])), (ad 47, .inl (ki 0, n_mpa, .inl v_mpa)), (ad 48, .inl (ki 0, n_mps, .inl v_mps))] := hD
          refine lv_aload_n hx hb d_Model_top_123 rfl (lv_at hl 0 rfl) ?_
          refine va_get (D := D) (ci := 8) (v := .int 2) (C := R_Model) (T := F_Model) (N := 30) hx hb hts hn_Model hown hK hP 0 rfl rfl 0 (by decide) hL76 (fun _ h9 => h9) rfl d_Model_top_124 ?_
          refine lv_if_le (tgt := 132) hx hb d_Model_top_127 (by decide) (fun c_3 => ?_) (fun c_3 => ?_)
          · replace hf := q_it hf c_3
            refine lv_iload_n hx hb d_Model_top_132 rfl (lv_at hl 1 rfl) ?_
            refine lv_iconst (v := (-1)) hx hb d_Model_top_133 (by decide) ?_
            refine lv_icmp_ne (tgt := 141) hx hb d_Model_top_134 (by decide) (fun c_4 => ?_) (fun c_4 => ?_)
            · replace hf := q_ie hf c_4
              refine lv_iload_n hx hb d_Model_top_141 rfl (lv_at hl 2 rfl) ?_
              refine lv_if_ne (tgt := 150) hx hb d_Model_top_142 (by decide) (fun c_5 => ?_) (fun c_5 => ?_)
              · replace hf := q_ie hf c_5
                refine lv_iload hx hb d_Model_top_150 (lv_at hl 5 rfl) ?_
                cases hf
                first | exact W.iret (v := x5) hx hb hr (fun t ht hW => ⟨rfl, by rw [ht]; exact hP, hS.F ht⟩) hS.2.2 d_Model_top_152 | exact W.iret (v := r) hx hb hr (fun t ht hW => ⟨rfl, by rw [ht]; exact hP, hS.F ht⟩) hS.2.2 d_Model_top_152
              replace hf := q_it hf c_5
              refine lv_iload hx hb d_Model_top_145 (lv_at hl 4 rfl) ?_
              refine lv_goto (tgt := 152) hx hb d_Model_top_147 (by decide) ?_
              cases hf
              first | exact W.iret (v := x4) hx hb hr (fun t ht hW => ⟨rfl, by rw [ht]; exact hP, hS.F ht⟩) hS.2.2 d_Model_top_152 | exact W.iret (v := r) hx hb hr (fun t ht hW => ⟨rfl, by rw [ht]; exact hP, hS.F ht⟩) hS.2.2 d_Model_top_152
            replace hf := q_it hf c_4
            refine lv_iload_n hx hb d_Model_top_137 rfl (lv_at hl 3 rfl) ?_
            refine lv_goto (tgt := 152) hx hb d_Model_top_138 (by decide) ?_
            cases hf
            first | exact W.iret (v := x3) hx hb hr (fun t ht hW => ⟨rfl, by rw [ht]; exact hP, hS.F ht⟩) hS.2.2 d_Model_top_152 | exact W.iret (v := r) hx hb hr (fun t ht hW => ⟨rfl, by rw [ht]; exact hP, hS.F ht⟩) hS.2.2 d_Model_top_152
          replace hf := q_ie hf c_3
          refine lv_iconst (v := 0) hx hb d_Model_top_130 (by decide) ?_
          cases hf
          exact W.iret (v := 0) hx hb hr (fun t ht hW => ⟨rfl, by rw [ht]; exact hP, hS.F ht⟩) hS.2.2 d_Model_top_131
        replace hf := q_ie hf c_2
        refine lv_iload_n hx hb d_Model_top_96 rfl (lv_at hl 1 rfl) ?_
        refine lv_iload_n hx hb d_Model_top_97 rfl (lv_at hl 3 rfl) ?_
        refine lv_icmp_lt (tgt := 105) hx hb d_Model_top_98 (by decide) (fun c_6 => ?_) (fun c_6 => ?_)
        · replace hf := q_it hf c_6
          refine lv_iload_n hx hb d_Model_top_105 rfl (lv_at hl 2 rfl) ?_
          refine lv_i2l (v := (x2).toInt64) hx hb d_Model_top_106 rfl ?_
          refine lv_lconst (v := 0) hx hb d_Model_top_107 (by decide) ?_
          refine lv_lconst (v := 1) hx hb d_Model_top_108 (by decide) ?_
          obtain ⟨r_7, hc_7, hf⟩ := q_mb hf
          refine q_pcall (W.runS (As := [.long (x2).toInt64, .long 0, .long 1]) (rest := [.ref (ad 29)]) ⟨hx, hb, hml, hown, hts⟩ (c_Model_isIn l D ad ki (x2).toInt64 0 1 N r_7 hc_7) (va_cwS 3 hts (q_goodS ⟨m_955, m_956, m_64⟩ m_957) rfl rfl rfl (by decide +kernel) ⟨Nat.le_of_ble_eq_true rfl, Nat.le_of_ble_eq_true rfl⟩) (q_preSP (wc := []) hE hK hP [] rfl) rfl rfl hl.1 rfl (lv_room (Nat.le_of_ble_eq_true rfl)) d_Model_top_109 ⟨Nat.le_of_ble_eq_true rfl, Nat.le_of_ble_eq_true rfl⟩) ?_
          refine zv_eq (tgt := 119) hx hb d_Model_top_112 (by decide) (fun c_8 => ?_) (fun c_8 => ?_)
          · replace hf := q_ie hf c_8
            refine lv_iconst (v := 3) hx hb d_Model_top_119 (by decide) ?_
            refine va_put (D := D) (ci := 8) (v := .int 3) (ty := .int) (C := R_Model) (T := F_Model) (N := 30) hx hb hts hn_Model t_Model t_Model_ok n_Model hown hK hP hD hS 0 rfl rfl 0 (by decide) hL76 (fun _ h9 => h9) rfl (by decide +kernel) rfl rfl (Nat.le_of_ble_eq_true rfl) d_Model_top_120 (fun H locs hP hD hS => ?_)
            replace hP : va_P D vwCl [(ad 29, .inr (8, [.int 3, .int v_mod_steps, .ref (ad 30), .int v_mod_pipes, .ref (ad 31), .int v_mod_items, .ref (ad 32), .ref (ad 33), .ref (ad 34), .ref (ad 35), .ref (ad 36), .ref (ad 37), .ref (ad 38), .int v_mod_least, .int v_mod_most, .ref (ad 39), .ref (ad 40), .ref (ad 41), .ref (ad 42), .ref (ad 43), .ref (ad 44), .int (bI v_mod_hasPlan), .int v_mod_told, .ref (ad 45), .int v_mod_pieces, .ref (ad 46), .ref (ad 47), .ref (ad 48), .long v_mod_planWorth, .long v_mod_planCents])), (ad 47, .inl (ki 0, n_mpa, .inl v_mpa)), (ad 48, .inl (ki 0, n_mps, .inl v_mps))] H := hP
            replace hD : va_D A [(ad 29, .inr (8, [.int 3, .int v_mod_steps, .ref (ad 30), .int v_mod_pipes, .ref (ad 31), .int v_mod_items, .ref (ad 32), .ref (ad 33), .ref (ad 34), .ref (ad 35), .ref (ad 36), .ref (ad 37), .ref (ad 38), .int v_mod_least, .int v_mod_most, .ref (ad 39), .ref (ad 40), .ref (ad 41), .ref (ad 42), .ref (ad 43), .ref (ad 44), .int (bI v_mod_hasPlan), .int v_mod_told, .ref (ad 45), .int v_mod_pieces, .ref (ad 46), .ref (ad 47), .ref (ad 48), .long v_mod_planWorth, .long v_mod_planCents])), (ad 47, .inl (ki 0, n_mpa, .inl v_mpa)), (ad 48, .inl (ki 0, n_mps, .inl v_mps))] := hD
            refine lv_aload_n hx hb d_Model_top_123 rfl (lv_at hl 0 rfl) ?_
            refine va_get (D := D) (ci := 8) (v := .int 3) (C := R_Model) (T := F_Model) (N := 30) hx hb hts hn_Model hown hK hP 0 rfl rfl 0 (by decide) hL76 (fun _ h9 => h9) rfl d_Model_top_124 ?_
            refine lv_if_le (tgt := 132) hx hb d_Model_top_127 (by decide) (fun c_9 => ?_) (fun c_9 => ?_)
            · replace hf := q_it hf c_9
              refine lv_iload_n hx hb d_Model_top_132 rfl (lv_at hl 1 rfl) ?_
              refine lv_iconst (v := (-1)) hx hb d_Model_top_133 (by decide) ?_
              refine lv_icmp_ne (tgt := 141) hx hb d_Model_top_134 (by decide) (fun c_10 => ?_) (fun c_10 => ?_)
              · replace hf := q_ie hf c_10
                refine lv_iload_n hx hb d_Model_top_141 rfl (lv_at hl 2 rfl) ?_
                refine lv_if_ne (tgt := 150) hx hb d_Model_top_142 (by decide) (fun c_11 => ?_) (fun c_11 => ?_)
                · replace hf := q_ie hf c_11
                  refine lv_iload hx hb d_Model_top_150 (lv_at hl 5 rfl) ?_
                  cases hf
                  first | exact W.iret (v := x5) hx hb hr (fun t ht hW => ⟨rfl, by rw [ht]; exact hP, hS.F ht⟩) hS.2.2 d_Model_top_152 | exact W.iret (v := r) hx hb hr (fun t ht hW => ⟨rfl, by rw [ht]; exact hP, hS.F ht⟩) hS.2.2 d_Model_top_152
                replace hf := q_it hf c_11
                refine lv_iload hx hb d_Model_top_145 (lv_at hl 4 rfl) ?_
                refine lv_goto (tgt := 152) hx hb d_Model_top_147 (by decide) ?_
                cases hf
                first | exact W.iret (v := x4) hx hb hr (fun t ht hW => ⟨rfl, by rw [ht]; exact hP, hS.F ht⟩) hS.2.2 d_Model_top_152 | exact W.iret (v := r) hx hb hr (fun t ht hW => ⟨rfl, by rw [ht]; exact hP, hS.F ht⟩) hS.2.2 d_Model_top_152
              replace hf := q_it hf c_10
              refine lv_iload_n hx hb d_Model_top_137 rfl (lv_at hl 3 rfl) ?_
              refine lv_goto (tgt := 152) hx hb d_Model_top_138 (by decide) ?_
              cases hf
              first | exact W.iret (v := x3) hx hb hr (fun t ht hW => ⟨rfl, by rw [ht]; exact hP, hS.F ht⟩) hS.2.2 d_Model_top_152 | exact W.iret (v := r) hx hb hr (fun t ht hW => ⟨rfl, by rw [ht]; exact hP, hS.F ht⟩) hS.2.2 d_Model_top_152
            replace hf := q_ie hf c_9
            refine lv_iconst (v := 0) hx hb d_Model_top_130 (by decide) ?_
            cases hf
            exact W.iret (v := 0) hx hb hr (fun t ht hW => ⟨rfl, by rw [ht]; exact hP, hS.F ht⟩) hS.2.2 d_Model_top_131
          replace hf := q_it hf c_8
          refine lv_iconst (v := 0) hx hb d_Model_top_115 (by decide) ?_
          refine lv_goto (tgt := 120) hx hb d_Model_top_116 (by decide) ?_
          refine va_put (D := D) (ci := 8) (v := .int 0) (ty := .int) (C := R_Model) (T := F_Model) (N := 30) hx hb hts hn_Model t_Model t_Model_ok n_Model hown hK hP hD hS 0 rfl rfl 0 (by decide) hL76 (fun _ h9 => h9) rfl (by decide +kernel) rfl rfl (Nat.le_of_ble_eq_true rfl) d_Model_top_120 (fun H locs hP hD hS => ?_)
          replace hP : va_P D vwCl [(ad 29, .inr (8, [.int 0, .int v_mod_steps, .ref (ad 30), .int v_mod_pipes, .ref (ad 31), .int v_mod_items, .ref (ad 32), .ref (ad 33), .ref (ad 34), .ref (ad 35), .ref (ad 36), .ref (ad 37), .ref (ad 38), .int v_mod_least, .int v_mod_most, .ref (ad 39), .ref (ad 40), .ref (ad 41), .ref (ad 42), .ref (ad 43), .ref (ad 44), .int (bI v_mod_hasPlan), .int v_mod_told, .ref (ad 45), .int v_mod_pieces, .ref (ad 46), .ref (ad 47), .ref (ad 48), .long v_mod_planWorth, .long v_mod_planCents])), (ad 47, .inl (ki 0, n_mpa, .inl v_mpa)), (ad 48, .inl (ki 0, n_mps, .inl v_mps))] H := hP
          replace hD : va_D A [(ad 29, .inr (8, [.int 0, .int v_mod_steps, .ref (ad 30), .int v_mod_pipes, .ref (ad 31), .int v_mod_items, .ref (ad 32), .ref (ad 33), .ref (ad 34), .ref (ad 35), .ref (ad 36), .ref (ad 37), .ref (ad 38), .int v_mod_least, .int v_mod_most, .ref (ad 39), .ref (ad 40), .ref (ad 41), .ref (ad 42), .ref (ad 43), .ref (ad 44), .int (bI v_mod_hasPlan), .int v_mod_told, .ref (ad 45), .int v_mod_pieces, .ref (ad 46), .ref (ad 47), .ref (ad 48), .long v_mod_planWorth, .long v_mod_planCents])), (ad 47, .inl (ki 0, n_mpa, .inl v_mpa)), (ad 48, .inl (ki 0, n_mps, .inl v_mps))] := hD
          refine lv_aload_n hx hb d_Model_top_123 rfl (lv_at hl 0 rfl) ?_
          refine va_get (D := D) (ci := 8) (v := .int 0) (C := R_Model) (T := F_Model) (N := 30) hx hb hts hn_Model hown hK hP 0 rfl rfl 0 (by decide) hL76 (fun _ h9 => h9) rfl d_Model_top_124 ?_
          refine lv_if_le (tgt := 132) hx hb d_Model_top_127 (by decide) (fun c_12 => ?_) (fun c_12 => ?_)
          · replace hf := q_it hf c_12
            refine lv_iload_n hx hb d_Model_top_132 rfl (lv_at hl 1 rfl) ?_
            refine lv_iconst (v := (-1)) hx hb d_Model_top_133 (by decide) ?_
            refine lv_icmp_ne (tgt := 141) hx hb d_Model_top_134 (by decide) (fun c_13 => ?_) (fun c_13 => ?_)
            · replace hf := q_ie hf c_13
              refine lv_iload_n hx hb d_Model_top_141 rfl (lv_at hl 2 rfl) ?_
              refine lv_if_ne (tgt := 150) hx hb d_Model_top_142 (by decide) (fun c_14 => ?_) (fun c_14 => ?_)
              · replace hf := q_ie hf c_14
                refine lv_iload hx hb d_Model_top_150 (lv_at hl 5 rfl) ?_
                cases hf
                first | exact W.iret (v := x5) hx hb hr (fun t ht hW => ⟨rfl, by rw [ht]; exact hP, hS.F ht⟩) hS.2.2 d_Model_top_152 | exact W.iret (v := r) hx hb hr (fun t ht hW => ⟨rfl, by rw [ht]; exact hP, hS.F ht⟩) hS.2.2 d_Model_top_152
              replace hf := q_it hf c_14
              refine lv_iload hx hb d_Model_top_145 (lv_at hl 4 rfl) ?_
              refine lv_goto (tgt := 152) hx hb d_Model_top_147 (by decide) ?_
              cases hf
              first | exact W.iret (v := x4) hx hb hr (fun t ht hW => ⟨rfl, by rw [ht]; exact hP, hS.F ht⟩) hS.2.2 d_Model_top_152 | exact W.iret (v := r) hx hb hr (fun t ht hW => ⟨rfl, by rw [ht]; exact hP, hS.F ht⟩) hS.2.2 d_Model_top_152
            replace hf := q_it hf c_13
            refine lv_iload_n hx hb d_Model_top_137 rfl (lv_at hl 3 rfl) ?_
            refine lv_goto (tgt := 152) hx hb d_Model_top_138 (by decide) ?_
            cases hf
            first | exact W.iret (v := x3) hx hb hr (fun t ht hW => ⟨rfl, by rw [ht]; exact hP, hS.F ht⟩) hS.2.2 d_Model_top_152 | exact W.iret (v := r) hx hb hr (fun t ht hW => ⟨rfl, by rw [ht]; exact hP, hS.F ht⟩) hS.2.2 d_Model_top_152
          replace hf := q_ie hf c_12
          refine lv_iconst (v := 0) hx hb d_Model_top_130 (by decide) ?_
          cases hf
          exact W.iret (v := 0) hx hb hr (fun t ht hW => ⟨rfl, by rw [ht]; exact hP, hS.F ht⟩) hS.2.2 d_Model_top_131
        replace hf := q_ie hf c_6
        refine lv_iconst (v := 2) hx hb d_Model_top_101 (by decide) ?_
        refine lv_goto (tgt := 120) hx hb d_Model_top_102 (by decide) ?_
        refine va_put (D := D) (ci := 8) (v := .int 2) (ty := .int) (C := R_Model) (T := F_Model) (N := 30) hx hb hts hn_Model t_Model t_Model_ok n_Model hown hK hP hD hS 0 rfl rfl 0 (by decide) hL76 (fun _ h9 => h9) rfl (by decide +kernel) rfl rfl (Nat.le_of_ble_eq_true rfl) d_Model_top_120 (fun H locs hP hD hS => ?_)
        replace hP : va_P D vwCl [(ad 29, .inr (8, [.int 2, .int v_mod_steps, .ref (ad 30), .int v_mod_pipes, .ref (ad 31), .int v_mod_items, .ref (ad 32), .ref (ad 33), .ref (ad 34), .ref (ad 35), .ref (ad 36), .ref (ad 37), .ref (ad 38), .int v_mod_least, .int v_mod_most, .ref (ad 39), .ref (ad 40), .ref (ad 41), .ref (ad 42), .ref (ad 43), .ref (ad 44), .int (bI v_mod_hasPlan), .int v_mod_told, .ref (ad 45), .int v_mod_pieces, .ref (ad 46), .ref (ad 47), .ref (ad 48), .long v_mod_planWorth, .long v_mod_planCents])), (ad 47, .inl (ki 0, n_mpa, .inl v_mpa)), (ad 48, .inl (ki 0, n_mps, .inl v_mps))] H := hP
        replace hD : va_D A [(ad 29, .inr (8, [.int 2, .int v_mod_steps, .ref (ad 30), .int v_mod_pipes, .ref (ad 31), .int v_mod_items, .ref (ad 32), .ref (ad 33), .ref (ad 34), .ref (ad 35), .ref (ad 36), .ref (ad 37), .ref (ad 38), .int v_mod_least, .int v_mod_most, .ref (ad 39), .ref (ad 40), .ref (ad 41), .ref (ad 42), .ref (ad 43), .ref (ad 44), .int (bI v_mod_hasPlan), .int v_mod_told, .ref (ad 45), .int v_mod_pieces, .ref (ad 46), .ref (ad 47), .ref (ad 48), .long v_mod_planWorth, .long v_mod_planCents])), (ad 47, .inl (ki 0, n_mpa, .inl v_mpa)), (ad 48, .inl (ki 0, n_mps, .inl v_mps))] := hD
        refine lv_aload_n hx hb d_Model_top_123 rfl (lv_at hl 0 rfl) ?_
        refine va_get (D := D) (ci := 8) (v := .int 2) (C := R_Model) (T := F_Model) (N := 30) hx hb hts hn_Model hown hK hP 0 rfl rfl 0 (by decide) hL76 (fun _ h9 => h9) rfl d_Model_top_124 ?_
        refine lv_if_le (tgt := 132) hx hb d_Model_top_127 (by decide) (fun c_15 => ?_) (fun c_15 => ?_)
        · replace hf := q_it hf c_15
          refine lv_iload_n hx hb d_Model_top_132 rfl (lv_at hl 1 rfl) ?_
          refine lv_iconst (v := (-1)) hx hb d_Model_top_133 (by decide) ?_
          refine lv_icmp_ne (tgt := 141) hx hb d_Model_top_134 (by decide) (fun c_16 => ?_) (fun c_16 => ?_)
          · replace hf := q_ie hf c_16
            refine lv_iload_n hx hb d_Model_top_141 rfl (lv_at hl 2 rfl) ?_
            refine lv_if_ne (tgt := 150) hx hb d_Model_top_142 (by decide) (fun c_17 => ?_) (fun c_17 => ?_)
            · replace hf := q_ie hf c_17
              refine lv_iload hx hb d_Model_top_150 (lv_at hl 5 rfl) ?_
              cases hf
              first | exact W.iret (v := x5) hx hb hr (fun t ht hW => ⟨rfl, by rw [ht]; exact hP, hS.F ht⟩) hS.2.2 d_Model_top_152 | exact W.iret (v := r) hx hb hr (fun t ht hW => ⟨rfl, by rw [ht]; exact hP, hS.F ht⟩) hS.2.2 d_Model_top_152
            replace hf := q_it hf c_17
            refine lv_iload hx hb d_Model_top_145 (lv_at hl 4 rfl) ?_
            refine lv_goto (tgt := 152) hx hb d_Model_top_147 (by decide) ?_
            cases hf
            first | exact W.iret (v := x4) hx hb hr (fun t ht hW => ⟨rfl, by rw [ht]; exact hP, hS.F ht⟩) hS.2.2 d_Model_top_152 | exact W.iret (v := r) hx hb hr (fun t ht hW => ⟨rfl, by rw [ht]; exact hP, hS.F ht⟩) hS.2.2 d_Model_top_152
          replace hf := q_it hf c_16
          refine lv_iload_n hx hb d_Model_top_137 rfl (lv_at hl 3 rfl) ?_
          refine lv_goto (tgt := 152) hx hb d_Model_top_138 (by decide) ?_
          cases hf
          first | exact W.iret (v := x3) hx hb hr (fun t ht hW => ⟨rfl, by rw [ht]; exact hP, hS.F ht⟩) hS.2.2 d_Model_top_152 | exact W.iret (v := r) hx hb hr (fun t ht hW => ⟨rfl, by rw [ht]; exact hP, hS.F ht⟩) hS.2.2 d_Model_top_152
        replace hf := q_ie hf c_15
        refine lv_iconst (v := 0) hx hb d_Model_top_130 (by decide) ?_
        cases hf
        exact W.iret (v := 0) hx hb hr (fun t ht hW => ⟨rfl, by rw [ht]; exact hP, hS.F ht⟩) hS.2.2 d_Model_top_131
      replace hf := q_ie hf c_1
      refine lv_aload_n hx hb d_Model_top_29 rfl (lv_at hl 0 rfl) ?_
      refine lv_iload hx hb d_Model_top_30 (lv_at hl 6 rfl) ?_
      obtain ⟨r_18, hc_18, hf⟩ := q_mb hf
      refine q_pcall (W.runV (As := [.int x6]) (rest := []) ⟨hx, hb, hml, hown, hts⟩ (c_Model_beginsTop l D ad ki n_mpa n_mps v_mod_code v_mod_steps v_mod_pipes v_mod_items v_mod_least v_mod_most v_mod_hasPlan v_mod_told v_mod_pieces v_mod_planWorth v_mod_planCents v_mpa v_mps x6 N r_18 hc_18) (cwV 1 hts (q_goodV ⟨m_1077, m_1079, m_48, m_64⟩ m_1080) rfl rfl rfl (by decide +kernel) ⟨Nat.le_of_ble_eq_true rfl, Nat.le_of_ble_eq_true rfl⟩) (q_preVP (wc := [(ad 29, .inr (8, [.int v_mod_code, .int v_mod_steps, .ref (ad 30), .int v_mod_pipes, .ref (ad 31), .int v_mod_items, .ref (ad 32), .ref (ad 33), .ref (ad 34), .ref (ad 35), .ref (ad 36), .ref (ad 37), .ref (ad 38), .int v_mod_least, .int v_mod_most, .ref (ad 39), .ref (ad 40), .ref (ad 41), .ref (ad 42), .ref (ad 43), .ref (ad 44), .int (bI v_mod_hasPlan), .int v_mod_told, .ref (ad 45), .int v_mod_pieces, .ref (ad 46), .ref (ad 47), .ref (ad 48), .long v_mod_planWorth, .long v_mod_planCents])), (ad 47, .inl (ki 0, n_mpa, .inl v_mpa)), (ad 48, .inl (ki 0, n_mps, .inl v_mps))]) hE hK hP [0, 1, 2] rfl 0 8 rfl rfl) rfl rfl hl.1 rfl (lv_room (Nat.le_of_ble_eq_true rfl)) d_Model_top_32 ⟨Nat.le_of_ble_eq_true rfl, Nat.le_of_ble_eq_true rfl⟩) ?_
      refine zv_eq (tgt := 60) hx hb d_Model_top_35 (by decide) (fun c_19 => ?_) (fun c_19 => ?_)
      · replace hf := q_ie hf c_19
        refine lv_iload_n hx hb d_Model_top_60 rfl (lv_at hl 3 rfl) ?_
        refine lv_iconst (v := 1) hx hb d_Model_top_61 (by decide) ?_
        refine lv_isub hx hb d_Model_top_62 ?_
        refine lv_iload_n hx hb d_Model_top_63 rfl (lv_at hl 1 rfl) ?_
        refine lv_icmp_ne (tgt := 80) hx hb d_Model_top_64 (by decide) (fun c_20 => ?_) (fun c_20 => ?_)
        · replace hf := q_ie hf c_20
          refine lv_iload hx hb d_Model_top_80 (lv_at hl 5 rfl) ?_
          refine lv_istore (lv' := [(5, .int x5), (0, .ref (ad 29)), (1, .int x1), (2, .int x2), (3, .int x3), (4, .int x4), (6, .int x6)]) hx hb d_Model_top_82 hl (by decide) rfl (fun ls hl => ?_)
          refine lv_iinc (v := (x6 + 1)) (lv' := [(6, .int (x6 + 1)), (5, .int x5), (0, .ref (ad 29)), (1, .int x1), (2, .int x2), (3, .int x3), (4, .int x4)]) hx hb d_Model_top_84 hl (k := 6) rfl rfl (by decide) rfl (fun ls hl => ?_)
          refine lv_goto (tgt := 20) hx hb d_Model_top_87 (by decide) ?_
          exact (ih) x1 x2 x3 x4 x5 (x6 + 1) v_mod_code hf _ _ hP hD hS ls (lv_sub hl [2, 3, 4, 5, 6, 1, 0] rfl)
        replace hf := q_it hf c_20
        refine lv_iload hx hb d_Model_top_67 (lv_at hl 5 rfl) ?_
        refine lv_aload_n hx hb d_Model_top_69 rfl (lv_at hl 0 rfl) ?_
        refine va_get (D := D) (ci := 8) (v := .ref (ad 48)) (C := R_Model) (T := F_Model) (N := 30) hx hb hts hn_Model hown hK hP 0 rfl rfl 27 (by decide) hL66 (fun _ h9 => h9) rfl d_Model_top_70 ?_
        refine lv_iload hx hb d_Model_top_73 (lv_at hl 6 rfl) ?_
        obtain ⟨hi_21, hf⟩ := q_ck hf
        refine va_iald hx hb hK hP 2 0 rfl rfl hi_21 d_Model_top_75 ?_
        refine lv_iadd hx hb d_Model_top_76 ?_
        refine lv_goto (tgt := 82) hx hb d_Model_top_77 (by decide) ?_
        refine lv_istore (lv' := [(5, .int (x5 + (v_mps (Int32.toNatClampNeg x6)))), (0, .ref (ad 29)), (1, .int x1), (2, .int x2), (3, .int x3), (4, .int x4), (6, .int x6)]) hx hb d_Model_top_82 hl (by decide) rfl (fun ls hl => ?_)
        refine lv_iinc (v := (x6 + 1)) (lv' := [(6, .int (x6 + 1)), (5, .int (x5 + (v_mps (Int32.toNatClampNeg x6)))), (0, .ref (ad 29)), (1, .int x1), (2, .int x2), (3, .int x3), (4, .int x4)]) hx hb d_Model_top_84 hl (k := 6) rfl rfl (by decide) rfl (fun ls hl => ?_)
        refine lv_goto (tgt := 20) hx hb d_Model_top_87 (by decide) ?_
        exact (ih) x1 x2 x3 x4 (x5 + (v_mps (Int32.toNatClampNeg x6))) (x6 + 1) v_mod_code hf _ _ hP hD hS ls (lv_sub hl [2, 3, 4, 5, 6, 1, 0] rfl)
      replace hf := q_it hf c_19
      refine lv_iload_n hx hb d_Model_top_38 rfl (lv_at hl 3 rfl) ?_
      refine lv_iload_n hx hb d_Model_top_39 rfl (lv_at hl 1 rfl) ?_
      refine lv_icmp_ne (tgt := 53) hx hb d_Model_top_40 (by decide) (fun c_22 => ?_) (fun c_22 => ?_)
      · replace hf := q_ie hf c_22
        refine lv_iload hx hb d_Model_top_53 (lv_at hl 4 rfl) ?_
        refine lv_istore (lv' := [(4, .int x4), (0, .ref (ad 29)), (1, .int x1), (2, .int x2), (3, .int x3), (5, .int x5), (6, .int x6)]) hx hb d_Model_top_55 hl (by decide) rfl (fun ls hl => ?_)
        refine lv_iinc (v := (x3 + 1)) (lv' := [(3, .int (x3 + 1)), (4, .int x4), (0, .ref (ad 29)), (1, .int x1), (2, .int x2), (5, .int x5), (6, .int x6)]) hx hb d_Model_top_57 hl (k := 4) rfl rfl (by decide) rfl (fun ls hl => ?_)
        refine lv_iload_n hx hb d_Model_top_60 rfl (lv_at hl 0 rfl) ?_
        refine lv_iconst (v := 1) hx hb d_Model_top_61 (by decide) ?_
        refine lv_isub hx hb d_Model_top_62 ?_
        refine lv_iload_n hx hb d_Model_top_63 rfl (lv_at hl 3 rfl) ?_
        refine lv_icmp_ne (tgt := 80) hx hb d_Model_top_64 (by decide) (fun c_23 => ?_) (fun c_23 => ?_)
        · replace hf := q_ie hf c_23
          refine lv_iload hx hb d_Model_top_80 (lv_at hl 5 rfl) ?_
          refine lv_istore (lv' := [(5, .int x5), (3, .int (x3 + 1)), (4, .int x4), (0, .ref (ad 29)), (1, .int x1), (2, .int x2), (6, .int x6)]) hx hb d_Model_top_82 hl (by decide) rfl (fun ls hl => ?_)
          refine lv_iinc (v := (x6 + 1)) (lv' := [(6, .int (x6 + 1)), (5, .int x5), (3, .int (x3 + 1)), (4, .int x4), (0, .ref (ad 29)), (1, .int x1), (2, .int x2)]) hx hb d_Model_top_84 hl (k := 6) rfl rfl (by decide) rfl (fun ls hl => ?_)
          refine lv_goto (tgt := 20) hx hb d_Model_top_87 (by decide) ?_
          exact (ih) x1 x2 (x3 + 1) x4 x5 (x6 + 1) v_mod_code hf _ _ hP hD hS ls (lv_sub hl [4, 5, 6, 2, 3, 1, 0] rfl)
        replace hf := q_it hf c_23
        refine lv_iload hx hb d_Model_top_67 (lv_at hl 5 rfl) ?_
        refine lv_aload_n hx hb d_Model_top_69 rfl (lv_at hl 2 rfl) ?_
        refine va_get (D := D) (ci := 8) (v := .ref (ad 48)) (C := R_Model) (T := F_Model) (N := 30) hx hb hts hn_Model hown hK hP 0 rfl rfl 27 (by decide) hL66 (fun _ h9 => h9) rfl d_Model_top_70 ?_
        refine lv_iload hx hb d_Model_top_73 (lv_at hl 6 rfl) ?_
        obtain ⟨hi_24, hf⟩ := q_ck hf
        refine va_iald hx hb hK hP 2 0 rfl rfl hi_24 d_Model_top_75 ?_
        refine lv_iadd hx hb d_Model_top_76 ?_
        refine lv_goto (tgt := 82) hx hb d_Model_top_77 (by decide) ?_
        refine lv_istore (lv' := [(5, .int (x5 + (v_mps (Int32.toNatClampNeg x6)))), (3, .int (x3 + 1)), (4, .int x4), (0, .ref (ad 29)), (1, .int x1), (2, .int x2), (6, .int x6)]) hx hb d_Model_top_82 hl (by decide) rfl (fun ls hl => ?_)
        refine lv_iinc (v := (x6 + 1)) (lv' := [(6, .int (x6 + 1)), (5, .int (x5 + (v_mps (Int32.toNatClampNeg x6)))), (3, .int (x3 + 1)), (4, .int x4), (0, .ref (ad 29)), (1, .int x1), (2, .int x2)]) hx hb d_Model_top_84 hl (k := 6) rfl rfl (by decide) rfl (fun ls hl => ?_)
        refine lv_goto (tgt := 20) hx hb d_Model_top_87 (by decide) ?_
        exact (ih) x1 x2 (x3 + 1) x4 (x5 + (v_mps (Int32.toNatClampNeg x6))) (x6 + 1) v_mod_code hf _ _ hP hD hS ls (lv_sub hl [4, 5, 6, 2, 3, 1, 0] rfl)
      replace hf := q_it hf c_22
      refine lv_aload_n hx hb d_Model_top_43 rfl (lv_at hl 0 rfl) ?_
      refine va_get (D := D) (ci := 8) (v := .ref (ad 47)) (C := R_Model) (T := F_Model) (N := 30) hx hb hts hn_Model hown hK hP 0 rfl rfl 26 (by decide) hL63 (fun _ h9 => h9) rfl d_Model_top_44 ?_
      refine lv_iload hx hb d_Model_top_47 (lv_at hl 6 rfl) ?_
      obtain ⟨hi_25, hf⟩ := q_ck hf
      refine va_iald hx hb hK hP 1 0 rfl rfl hi_25 d_Model_top_49 ?_
      refine lv_goto (tgt := 55) hx hb d_Model_top_50 (by decide) ?_
      refine lv_istore (lv' := [(4, .int (v_mpa (Int32.toNatClampNeg x6))), (0, .ref (ad 29)), (1, .int x1), (2, .int x2), (3, .int x3), (5, .int x5), (6, .int x6)]) hx hb d_Model_top_55 hl (by decide) rfl (fun ls hl => ?_)
      refine lv_iinc (v := (x3 + 1)) (lv' := [(3, .int (x3 + 1)), (4, .int (v_mpa (Int32.toNatClampNeg x6))), (0, .ref (ad 29)), (1, .int x1), (2, .int x2), (5, .int x5), (6, .int x6)]) hx hb d_Model_top_57 hl (k := 4) rfl rfl (by decide) rfl (fun ls hl => ?_)
      refine lv_iload_n hx hb d_Model_top_60 rfl (lv_at hl 0 rfl) ?_
      refine lv_iconst (v := 1) hx hb d_Model_top_61 (by decide) ?_
      refine lv_isub hx hb d_Model_top_62 ?_
      refine lv_iload_n hx hb d_Model_top_63 rfl (lv_at hl 3 rfl) ?_
      refine lv_icmp_ne (tgt := 80) hx hb d_Model_top_64 (by decide) (fun c_26 => ?_) (fun c_26 => ?_)
      · replace hf := q_ie hf c_26
        refine lv_iload hx hb d_Model_top_80 (lv_at hl 5 rfl) ?_
        refine lv_istore (lv' := [(5, .int x5), (3, .int (x3 + 1)), (4, .int (v_mpa (Int32.toNatClampNeg x6))), (0, .ref (ad 29)), (1, .int x1), (2, .int x2), (6, .int x6)]) hx hb d_Model_top_82 hl (by decide) rfl (fun ls hl => ?_)
        refine lv_iinc (v := (x6 + 1)) (lv' := [(6, .int (x6 + 1)), (5, .int x5), (3, .int (x3 + 1)), (4, .int (v_mpa (Int32.toNatClampNeg x6))), (0, .ref (ad 29)), (1, .int x1), (2, .int x2)]) hx hb d_Model_top_84 hl (k := 6) rfl rfl (by decide) rfl (fun ls hl => ?_)
        refine lv_goto (tgt := 20) hx hb d_Model_top_87 (by decide) ?_
        exact (ih) x1 x2 (x3 + 1) (v_mpa (Int32.toNatClampNeg x6)) x5 (x6 + 1) v_mod_code hf _ _ hP hD hS ls (lv_sub hl [4, 5, 6, 2, 3, 1, 0] rfl)
      replace hf := q_it hf c_26
      refine lv_iload hx hb d_Model_top_67 (lv_at hl 5 rfl) ?_
      refine lv_aload_n hx hb d_Model_top_69 rfl (lv_at hl 2 rfl) ?_
      refine va_get (D := D) (ci := 8) (v := .ref (ad 48)) (C := R_Model) (T := F_Model) (N := 30) hx hb hts hn_Model hown hK hP 0 rfl rfl 27 (by decide) hL66 (fun _ h9 => h9) rfl d_Model_top_70 ?_
      refine lv_iload hx hb d_Model_top_73 (lv_at hl 6 rfl) ?_
      obtain ⟨hi_27, hf⟩ := q_ck hf
      refine va_iald hx hb hK hP 2 0 rfl rfl hi_27 d_Model_top_75 ?_
      refine lv_iadd hx hb d_Model_top_76 ?_
      refine lv_goto (tgt := 82) hx hb d_Model_top_77 (by decide) ?_
      refine lv_istore (lv' := [(5, .int (x5 + (v_mps (Int32.toNatClampNeg x6)))), (3, .int (x3 + 1)), (4, .int (v_mpa (Int32.toNatClampNeg x6))), (0, .ref (ad 29)), (1, .int x1), (2, .int x2), (6, .int x6)]) hx hb d_Model_top_82 hl (by decide) rfl (fun ls hl => ?_)
      refine lv_iinc (v := (x6 + 1)) (lv' := [(6, .int (x6 + 1)), (5, .int (x5 + (v_mps (Int32.toNatClampNeg x6)))), (3, .int (x3 + 1)), (4, .int (v_mpa (Int32.toNatClampNeg x6))), (0, .ref (ad 29)), (1, .int x1), (2, .int x2)]) hx hb d_Model_top_84 hl (k := 6) rfl rfl (by decide) rfl (fun ls hl => ?_)
      refine lv_goto (tgt := 20) hx hb d_Model_top_87 (by decide) ?_
      exact (ih) x1 x2 (x3 + 1) (v_mpa (Int32.toNatClampNeg x6)) (x5 + (v_mps (Int32.toNatClampNeg x6))) (x6 + 1) v_mod_code hf _ _ hP hD hS ls (lv_sub hl [4, 5, 6, 2, 3, 1, 0] rfl)
  unfold f_Model_top at hf
  refine lv_aload_n hx hb d_Model_top_0 rfl (lv_at hl 0 rfl) ?_
  obtain ⟨⟨r_28, v_mod_code_28⟩, hc_28, hf⟩ := q_mb hf
  have hC_28 : ([0] : List Nat).map (fun i => ([(ad 29, .inr (8, [.int v_mod_code, .int v_mod_steps, .ref (ad 30), .int v_mod_pipes, .ref (ad 31), .int v_mod_items, .ref (ad 32), .ref (ad 33), .ref (ad 34), .ref (ad 35), .ref (ad 36), .ref (ad 37), .ref (ad 38), .int v_mod_least, .int v_mod_most, .ref (ad 39), .ref (ad 40), .ref (ad 41), .ref (ad 42), .ref (ad 43), .ref (ad 44), .int (bI v_mod_hasPlan), .int v_mod_told, .ref (ad 45), .int v_mod_pieces, .ref (ad 46), .ref (ad 47), .ref (ad 48), .long v_mod_planWorth, .long v_mod_planCents])), (ad 47, .inl (ki 0, n_mpa, .inl v_mpa)), (ad 48, .inl (ki 0, n_mps, .inl v_mps))] : va_W)[i]?) = ([(ad 29, .inr (8, [.int v_mod_code, .int v_mod_steps, .ref (ad 30), .int v_mod_pipes, .ref (ad 31), .int v_mod_items, .ref (ad 32), .ref (ad 33), .ref (ad 34), .ref (ad 35), .ref (ad 36), .ref (ad 37), .ref (ad 38), .int v_mod_least, .int v_mod_most, .ref (ad 39), .ref (ad 40), .ref (ad 41), .ref (ad 42), .ref (ad 43), .ref (ad 44), .int (bI v_mod_hasPlan), .int v_mod_told, .ref (ad 45), .int v_mod_pieces, .ref (ad 46), .ref (ad 47), .ref (ad 48), .long v_mod_planWorth, .long v_mod_planCents]))] : va_W).map some := rfl
  refine q_mcall3 (w1 := [(ad 29, .inr (8, [.int v_mod_code_28, .int v_mod_steps, .ref (ad 30), .int v_mod_pipes, .ref (ad 31), .int v_mod_items, .ref (ad 32), .ref (ad 33), .ref (ad 34), .ref (ad 35), .ref (ad 36), .ref (ad 37), .ref (ad 38), .int v_mod_least, .int v_mod_most, .ref (ad 39), .ref (ad 40), .ref (ad 41), .ref (ad 42), .ref (ad 43), .ref (ad 44), .int (bI v_mod_hasPlan), .int v_mod_told, .ref (ad 45), .int v_mod_pieces, .ref (ad 46), .ref (ad 47), .ref (ad 48), .long v_mod_planWorth, .long v_mod_planCents]))]) (ws' := [(ad 29, .inr (8, [.int v_mod_code_28, .int v_mod_steps, .ref (ad 30), .int v_mod_pipes, .ref (ad 31), .int v_mod_items, .ref (ad 32), .ref (ad 33), .ref (ad 34), .ref (ad 35), .ref (ad 36), .ref (ad 37), .ref (ad 38), .int v_mod_least, .int v_mod_most, .ref (ad 39), .ref (ad 40), .ref (ad 41), .ref (ad 42), .ref (ad 43), .ref (ad 44), .int (bI v_mod_hasPlan), .int v_mod_told, .ref (ad 45), .int v_mod_pieces, .ref (ad 46), .ref (ad 47), .ref (ad 48), .long v_mod_planWorth, .long v_mod_planCents])), (ad 47, .inl (ki 0, n_mpa, .inl v_mpa)), (ad 48, .inl (ki 0, n_mps, .inl v_mps))]) (wc := [(ad 29, .inr (8, [.int v_mod_code, .int v_mod_steps, .ref (ad 30), .int v_mod_pipes, .ref (ad 31), .int v_mod_items, .ref (ad 32), .ref (ad 33), .ref (ad 34), .ref (ad 35), .ref (ad 36), .ref (ad 37), .ref (ad 38), .int v_mod_least, .int v_mod_most, .ref (ad 39), .ref (ad 40), .ref (ad 41), .ref (ad 42), .ref (ad 43), .ref (ad 44), .int (bI v_mod_hasPlan), .int v_mod_told, .ref (ad 45), .int v_mod_pieces, .ref (ad 46), .ref (ad 47), .ref (ad 48), .long v_mod_planWorth, .long v_mod_planCents]))]) (va_runV (As := []) (rest := []) ⟨hx, hb, hml, hown, hts⟩ (c_Model_none l D ad ki v_mod_code v_mod_steps v_mod_pipes v_mod_items v_mod_least v_mod_most v_mod_hasPlan v_mod_told v_mod_pieces v_mod_planWorth v_mod_planCents N _ r_28 v_mod_code_28 hc_28) (cwV 0 hts (q_goodV ⟨m_1060, m_1062, m_47, m_64⟩ m_1063) rfl rfl rfl (by decide +kernel) ⟨Nat.le_of_ble_eq_true rfl, Nat.le_of_ble_eq_true rfl⟩) (q_preVM3 hE hK hP hD (by decide +kernel) hC_28 0 8 rfl rfl) rfl rfl hl.1 rfl (lv_room (Nat.le_of_ble_eq_true rfl)) d_Model_top_1 ⟨Nat.le_of_ble_eq_true rfl, Nat.le_of_ble_eq_true rfl⟩) hP hD hS hA hC_28 [ad 29, ad 47, ad 48] rfl rfl (fun H1 h1 hk => (q_c (h1 0 _ rfl) (q_c (hk 1 _ rfl (by decide)) (q_c (hk 2 _ rfl (by decide)) q_n)))) rfl (fun H locs hP hD hS => ?_)
  refine zv_eq (tgt := 9) hx hb d_Model_top_4 (by decide) (fun c_29 => ?_) (fun c_29 => ?_)
  · replace hf := q_ie hf c_29
    refine lv_iconst (v := 0) hx hb d_Model_top_9 (by decide) ?_
    refine lv_istore_n (lv' := [(3, .int 0), (0, .ref (ad 29)), (1, .int p1), (2, .int p2)]) hx hb d_Model_top_10 rfl hl (by decide) rfl (fun ls hl => ?_)
    refine lv_iconst (v := 0) hx hb d_Model_top_11 (by decide) ?_
    refine lv_istore (lv' := [(4, .int 0), (3, .int 0), (0, .ref (ad 29)), (1, .int p1), (2, .int p2)]) hx hb d_Model_top_12 hl (by decide) rfl (fun ls hl => ?_)
    refine lv_iconst (v := 0) hx hb d_Model_top_14 (by decide) ?_
    refine lv_istore (lv' := [(5, .int 0), (4, .int 0), (3, .int 0), (0, .ref (ad 29)), (1, .int p1), (2, .int p2)]) hx hb d_Model_top_15 hl (by decide) rfl (fun ls hl => ?_)
    refine lv_iconst (v := 0) hx hb d_Model_top_17 (by decide) ?_
    refine lv_istore (lv' := [(6, .int 0), (5, .int 0), (4, .int 0), (3, .int 0), (0, .ref (ad 29)), (1, .int p1), (2, .int p2)]) hx hb d_Model_top_18 hl (by decide) rfl (fun ls hl => ?_)
    exact (key N) p1 p2 0 0 0 0 v_mod_code_28 hf _ _ hP hD hS ls (lv_sub hl [4, 5, 6, 3, 2, 1, 0] rfl)
  replace hf := q_it hf c_29
  refine lv_iconst (v := 0) hx hb d_Model_top_7 (by decide) ?_
  cases hf
  exact W.iret (v := 0) hx hb hr (fun t ht hW => ⟨rfl, by rw [ht]; exact hP, hS.F ht⟩) hS.2.2 d_Model_top_8
def f_Model_place (N : Nat) (n_mput : Nat) (v_mod_code : Int32) (v_mod_steps : Int32) (v_mod_pipes : Int32) (v_mod_items : Int32) (v_mod_least : Int32) (v_mod_most : Int32) (v_mod_hasPlan : Bool) (v_mod_told : Int32) (v_mod_pieces : Int32) (v_mod_planWorth : Int64) (v_mod_planCents : Int64) (v_mput : Nat → Int32) (p1 : Int32) (p2 : Int32) : Option (Bool × Int32 × (Nat → Int32)) := (Option.bind (f_Model_isItem N v_mod_code v_mod_steps v_mod_pipes v_mod_items v_mod_least v_mod_most v_mod_hasPlan v_mod_told v_mod_pieces v_mod_planWorth v_mod_planCents p1) (fun r_1 => (if r_1 = true then (Option.bind (f_Model_isIn N (p2).toInt64 (-101) 100) (fun r_3 => (if r_3 = true then (if 0 < (0 : Int32) then (some (false, 0, v_mput)) else (if p1 < 0 ∨ n_mput ≤ Int32.toNatClampNeg p1 then none else (if (v_mput (Int32.toNatClampNeg p1)) = p2 then (some (false, 0, v_mput)) else (if p1 < 0 ∨ n_mput ≤ Int32.toNatClampNeg p1 then none else (some (true, 0, (upd v_mput (Int32.toNatClampNeg p1) p2))))))) else (if 0 < (2 : Int32) then (some (false, 2, v_mput)) else (if p1 < 0 ∨ n_mput ≤ Int32.toNatClampNeg p1 then none else (if (v_mput (Int32.toNatClampNeg p1)) = p2 then (some (false, 2, v_mput)) else (if p1 < 0 ∨ n_mput ≤ Int32.toNatClampNeg p1 then none else (some (true, 2, (upd v_mput (Int32.toNatClampNeg p1) p2)))))))))) else (if 0 < (1 : Int32) then (some (false, 1, v_mput)) else (if p1 < 0 ∨ n_mput ≤ Int32.toNatClampNeg p1 then none else (if (v_mput (Int32.toNatClampNeg p1)) = p2 then (some (false, 1, v_mput)) else (if p1 < 0 ∨ n_mput ≤ Int32.toNatClampNeg p1 then none else (some (true, 1, (upd v_mput (Int32.toNatClampNeg p1) p2))))))))))
set_option maxRecDepth 100000 in
set_option maxHeartbeats 4000000 in
theorem c_Model_place (l : Launch) (D : va_G) (ad : Nat → Nat) (ki : Nat → ClassId) (n_mput : Nat) (v_mod_code : Int32) (v_mod_steps : Int32) (v_mod_pipes : Int32) (v_mod_items : Int32) (v_mod_least : Int32) (v_mod_most : Int32) (v_mod_hasPlan : Bool) (v_mod_told : Int32) (v_mod_pieces : Int32) (v_mod_planWorth : Int64) (v_mod_planCents : Int64) (v_mput : Nat → Int32) (p1 : Int32) (p2 : Int32) (N : Nat) (sz : Nat) (r : Bool) (ov_mod_code : Int32) (ov_mput : Nat → Int32) (hf : f_Model_place N n_mput v_mod_code v_mod_steps v_mod_pipes v_mod_items v_mod_least v_mod_most v_mod_hasPlan v_mod_told v_mod_pieces v_mod_planWorth v_mod_planCents v_mput p1 p2 = some (r, ov_mod_code, ov_mput)) : Met l y_Model_place w_Model_place { frames := 1, cells := 0, slots := 0, locals := 25 } (q_PcM [.ref (ad 29), .int p1, .int p2] D vwCl [(ad 29, .inr (8, [.int v_mod_code, .int v_mod_steps, .ref (ad 30), .int v_mod_pipes, .ref (ad 31), .int v_mod_items, .ref (ad 32), .ref (ad 33), .ref (ad 34), .ref (ad 35), .ref (ad 36), .ref (ad 37), .ref (ad 38), .int v_mod_least, .int v_mod_most, .ref (ad 39), .ref (ad 40), .ref (ad 41), .ref (ad 42), .ref (ad 43), .ref (ad 44), .int (bI v_mod_hasPlan), .int v_mod_told, .ref (ad 45), .int v_mod_pieces, .ref (ad 46), .ref (ad 47), .ref (ad 48), .long v_mod_planWorth, .long v_mod_planCents])), (ad 39, .inl (ki 0, n_mput, .inl v_mput))] (TYS ki) sz) (q_Qm (some (.int (bI r))) D vwCl [(ad 29, .inr (8, [.int ov_mod_code, .int v_mod_steps, .ref (ad 30), .int v_mod_pipes, .ref (ad 31), .int v_mod_items, .ref (ad 32), .ref (ad 33), .ref (ad 34), .ref (ad 35), .ref (ad 36), .ref (ad 37), .ref (ad 38), .int v_mod_least, .int v_mod_most, .ref (ad 39), .ref (ad 40), .ref (ad 41), .ref (ad 42), .ref (ad 43), .ref (ad 44), .int (bI v_mod_hasPlan), .int v_mod_told, .ref (ad 45), .int v_mod_pieces, .ref (ad 46), .ref (ad 47), .ref (ad 48), .long v_mod_planWorth, .long v_mod_planCents])), (ad 39, .inl (ki 0, n_mput, .inl ov_mput))] (va_A [(ad 29, .inr (8, [.int v_mod_code, .int v_mod_steps, .ref (ad 30), .int v_mod_pipes, .ref (ad 31), .int v_mod_items, .ref (ad 32), .ref (ad 33), .ref (ad 34), .ref (ad 35), .ref (ad 36), .ref (ad 37), .ref (ad 38), .int v_mod_least, .int v_mod_most, .ref (ad 39), .ref (ad 40), .ref (ad 41), .ref (ad 42), .ref (ad 43), .ref (ad 44), .int (bI v_mod_hasPlan), .int v_mod_told, .ref (ad 45), .int v_mod_pieces, .ref (ad 46), .ref (ad 47), .ref (ad 48), .long v_mod_planWorth, .long v_mod_planCents])), (ad 39, .inl (ki 0, n_mput, .inl v_mput))] sz)) 0 0 (va_A [(ad 29, .inr (8, [.int v_mod_code, .int v_mod_steps, .ref (ad 30), .int v_mod_pipes, .ref (ad 31), .int v_mod_items, .ref (ad 32), .ref (ad 33), .ref (ad 34), .ref (ad 35), .ref (ad 36), .ref (ad 37), .ref (ad 38), .int v_mod_least, .int v_mod_most, .ref (ad 39), .ref (ad 40), .ref (ad 41), .ref (ad 42), .ref (ad 43), .ref (ad 44), .int (bI v_mod_hasPlan), .int v_mod_told, .ref (ad 45), .int v_mod_pieces, .ref (ad 46), .ref (ad 47), .ref (ad 48), .long v_mod_planWorth, .long v_mod_planCents])), (ad 39, .inl (ki 0, n_mput, .inl v_mput))] sz) := by
  refine Met.ofW (cc := b_Model_place) (maxL := 3) (ret := (some .boolean)) (by decide) rfl ?_
  intro p e s m args below meth c s₁ B hml hv
  obtain ⟨rfl, hsz, hP, hK, hD0, hE⟩ := hv
  have hx := B.exec
  have hb := B.bytes
  have hr := B.returns
  have hts := atoms_spec (ws := w_Model_place) B.pre
  have hown : s.vm.findClass R_Model = some m.cls := findClass_of_methodNamed B.named
  have hlocks := B.notSynchronized
  have hn_Model : ∀ w ∈ u_ws R_Model F_Model 30, w ∈ w_Model_place := (fun w h => List.mem_cons_of_mem _ (i_Model w h))
  have hL39 := hts (.fieldLink R_Model 39 "RoomFillsModel" "put" "[I") (List.mem_cons_of_mem _ m_858)
  have hL76 := hts (.fieldLink R_Model 76 "RoomFillsModel" "code" "I") (List.mem_cons_of_mem _ m_843)
  have hL193 := hts (.constantLong R_Model 193 (-101)) (List.mem_cons_of_mem _ m_1085)
  have hL195 := hts (.constantLong R_Model 195 (100)) (List.mem_cons_of_mem _ m_1086)
  subst hsz
  have hD := hD0.self (sz := s.heap.size)
  generalize hAe : va_A [(ad 29, .inr (8, [.int v_mod_code, .int v_mod_steps, .ref (ad 30), .int v_mod_pipes, .ref (ad 31), .int v_mod_items, .ref (ad 32), .ref (ad 33), .ref (ad 34), .ref (ad 35), .ref (ad 36), .ref (ad 37), .ref (ad 38), .int v_mod_least, .int v_mod_most, .ref (ad 39), .ref (ad 40), .ref (ad 41), .ref (ad 42), .ref (ad 43), .ref (ad 44), .int (bI v_mod_hasPlan), .int v_mod_told, .ref (ad 45), .int v_mod_pieces, .ref (ad 46), .ref (ad 47), .ref (ad 48), .long v_mod_planWorth, .long v_mod_planCents])), (ad 39, .inl (ki 0, n_mput, .inl v_mput))] s.heap.size = A at hD ⊢
  have hA : ∀ q : Nat, s.heap.size ≤ q → A q := fun q h => by rw [← hAe]; exact Or.inr h
  have hS : va_S A s.heap s.heap [] := va_S.rf
  replace hP : va_P D vwCl [(ad 29, .inr (8, [.int v_mod_code, .int v_mod_steps, .ref (ad 30), .int v_mod_pipes, .ref (ad 31), .int v_mod_items, .ref (ad 32), .ref (ad 33), .ref (ad 34), .ref (ad 35), .ref (ad 36), .ref (ad 37), .ref (ad 38), .int v_mod_least, .int v_mod_most, .ref (ad 39), .ref (ad 40), .ref (ad 41), .ref (ad 42), .ref (ad 43), .ref (ad 44), .int (bI v_mod_hasPlan), .int v_mod_told, .ref (ad 45), .int v_mod_pieces, .ref (ad 46), .ref (ad 47), .ref (ad 48), .long v_mod_planWorth, .long v_mod_planCents])), (ad 39, .inl (ki 0, n_mput, .inl v_mput))] s.heap := hP
  have hl := lv_entry ([.ref (ad 29), .int p1, .int p2]) (n := 3) (Nat.le_of_ble_eq_true rfl)
  rw [lg_entry_eq]
  generalize (lg_sl ([.ref (ad 29), .int p1, .int p2]) ++ List.replicate (3 - (lg_sl ([.ref (ad 29), .int p1, .int p2])).length) Slot.unset).toArray = ls at hl ⊢
  replace hl : lv_has ls 3 [(0, .ref (ad 29)), (1, .int p1), (2, .int p2)] := hl
  unfold f_Model_place at hf
  refine lv_aload_n hx hb d_Model_place_0 rfl (lv_at hl 0 rfl) ?_
  refine lv_aload_n hx hb d_Model_place_1 rfl (lv_at hl 0 rfl) ?_
  refine lv_iload_n hx hb d_Model_place_2 rfl (lv_at hl 1 rfl) ?_
  obtain ⟨r_1, hc_1, hf⟩ := q_mb hf
  refine q_pcall (W.runV (As := [.int p1]) (rest := [.ref (ad 29)]) ⟨hx, hb, hml, hown, hts⟩ (c_Model_isItem l D ad ki v_mod_code v_mod_steps v_mod_pipes v_mod_items v_mod_least v_mod_most v_mod_hasPlan v_mod_told v_mod_pieces v_mod_planWorth v_mod_planCents p1 N r_1 hc_1) (cwV 1 hts (q_goodV ⟨m_963, m_965, m_32, m_64⟩ m_966) rfl rfl rfl (by decide +kernel) ⟨Nat.le_of_ble_eq_true rfl, Nat.le_of_ble_eq_true rfl⟩) (q_preVP (wc := [(ad 29, .inr (8, [.int v_mod_code, .int v_mod_steps, .ref (ad 30), .int v_mod_pipes, .ref (ad 31), .int v_mod_items, .ref (ad 32), .ref (ad 33), .ref (ad 34), .ref (ad 35), .ref (ad 36), .ref (ad 37), .ref (ad 38), .int v_mod_least, .int v_mod_most, .ref (ad 39), .ref (ad 40), .ref (ad 41), .ref (ad 42), .ref (ad 43), .ref (ad 44), .int (bI v_mod_hasPlan), .int v_mod_told, .ref (ad 45), .int v_mod_pieces, .ref (ad 46), .ref (ad 47), .ref (ad 48), .long v_mod_planWorth, .long v_mod_planCents]))]) hE hK hP [0] rfl 0 8 rfl rfl) rfl rfl hl.1 rfl (lv_room (Nat.le_of_ble_eq_true rfl)) d_Model_place_3 ⟨Nat.le_of_ble_eq_true rfl, Nat.le_of_ble_eq_true rfl⟩) ?_
  refine zv_ne (tgt := 13) hx hb d_Model_place_6 (by decide) (fun c_2 => ?_) (fun c_2 => ?_)
  · replace hf := q_it hf c_2
    refine lv_iload_n hx hb d_Model_place_13 rfl (lv_at hl 2 rfl) ?_
    refine lv_i2l (v := (p2).toInt64) hx hb d_Model_place_14 rfl ?_
    refine lv_ldc2 (v := (-101)) hx hb hown hL193 d_Model_place_15 ?_
    refine lv_ldc2 (v := 100) hx hb hown hL195 d_Model_place_18 ?_
    obtain ⟨r_3, hc_3, hf⟩ := q_mb hf
    refine q_pcall (W.runS (As := [.long (p2).toInt64, .long (-101), .long 100]) (rest := [.ref (ad 29)]) ⟨hx, hb, hml, hown, hts⟩ (c_Model_isIn l D ad ki (p2).toInt64 (-101) 100 N r_3 hc_3) (va_cwS 3 hts (q_goodS ⟨m_955, m_956, m_64⟩ m_957) rfl rfl rfl (by decide +kernel) ⟨Nat.le_of_ble_eq_true rfl, Nat.le_of_ble_eq_true rfl⟩) (q_preSP (wc := []) hE hK hP [] rfl) rfl rfl hl.1 rfl (lv_room (Nat.le_of_ble_eq_true rfl)) d_Model_place_21 ⟨Nat.le_of_ble_eq_true rfl, Nat.le_of_ble_eq_true rfl⟩) ?_
    refine zv_eq (tgt := 31) hx hb d_Model_place_24 (by decide) (fun c_4 => ?_) (fun c_4 => ?_)
    · replace hf := q_ie hf c_4
      refine lv_iconst (v := 2) hx hb d_Model_place_31 (by decide) ?_
      refine va_put (D := D) (ci := 8) (v := .int 2) (ty := .int) (C := R_Model) (T := F_Model) (N := 30) hx hb hts hn_Model t_Model t_Model_ok n_Model hown hK hP hD hS 0 rfl rfl 0 (by decide) hL76 (fun _ h9 => h9) rfl (by decide +kernel) rfl rfl (Nat.le_of_ble_eq_true rfl) d_Model_place_32 (fun H locs hP hD hS => ?_)
      replace hP : va_P D vwCl [(ad 29, .inr (8, [.int 2, .int v_mod_steps, .ref (ad 30), .int v_mod_pipes, .ref (ad 31), .int v_mod_items, .ref (ad 32), .ref (ad 33), .ref (ad 34), .ref (ad 35), .ref (ad 36), .ref (ad 37), .ref (ad 38), .int v_mod_least, .int v_mod_most, .ref (ad 39), .ref (ad 40), .ref (ad 41), .ref (ad 42), .ref (ad 43), .ref (ad 44), .int (bI v_mod_hasPlan), .int v_mod_told, .ref (ad 45), .int v_mod_pieces, .ref (ad 46), .ref (ad 47), .ref (ad 48), .long v_mod_planWorth, .long v_mod_planCents])), (ad 39, .inl (ki 0, n_mput, .inl v_mput))] H := hP
      replace hD : va_D A [(ad 29, .inr (8, [.int 2, .int v_mod_steps, .ref (ad 30), .int v_mod_pipes, .ref (ad 31), .int v_mod_items, .ref (ad 32), .ref (ad 33), .ref (ad 34), .ref (ad 35), .ref (ad 36), .ref (ad 37), .ref (ad 38), .int v_mod_least, .int v_mod_most, .ref (ad 39), .ref (ad 40), .ref (ad 41), .ref (ad 42), .ref (ad 43), .ref (ad 44), .int (bI v_mod_hasPlan), .int v_mod_told, .ref (ad 45), .int v_mod_pieces, .ref (ad 46), .ref (ad 47), .ref (ad 48), .long v_mod_planWorth, .long v_mod_planCents])), (ad 39, .inl (ki 0, n_mput, .inl v_mput))] := hD
      refine lv_aload_n hx hb d_Model_place_35 rfl (lv_at hl 0 rfl) ?_
      refine va_get (D := D) (ci := 8) (v := .int 2) (C := R_Model) (T := F_Model) (N := 30) hx hb hts hn_Model hown hK hP 0 rfl rfl 0 (by decide) hL76 (fun _ h9 => h9) rfl d_Model_place_36 ?_
      refine lv_if_gt (tgt := 52) hx hb d_Model_place_39 (by decide) (fun c_5 => ?_) (fun c_5 => ?_)
      · replace hf := q_it hf c_5
        refine lv_iconst (v := 0) hx hb d_Model_place_52 (by decide) ?_
        cases hf
        exact W.zret (v := bI false) hx hb hr (bI_nar _) (fun t ht hW => ⟨rfl, by rw [ht]; exact hP, hS.F ht⟩) hS.2.2 d_Model_place_53
      replace hf := q_ie hf c_5
      refine lv_aload_n hx hb d_Model_place_42 rfl (lv_at hl 0 rfl) ?_
      refine va_get (D := D) (ci := 8) (v := .ref (ad 39)) (C := R_Model) (T := F_Model) (N := 30) hx hb hts hn_Model hown hK hP 0 rfl rfl 15 (by decide) hL39 (fun _ h9 => h9) rfl d_Model_place_43 ?_
      refine lv_iload_n hx hb d_Model_place_46 rfl (lv_at hl 1 rfl) ?_
      obtain ⟨hi_6, hf⟩ := q_ck hf
      refine va_iald hx hb hK hP 1 0 rfl rfl hi_6 d_Model_place_47 ?_
      refine lv_iload_n hx hb d_Model_place_48 rfl (lv_at hl 2 rfl) ?_
      refine lv_icmp_ne (tgt := 54) hx hb d_Model_place_49 (by decide) (fun c_7 => ?_) (fun c_7 => ?_)
      · replace hf := q_ie hf c_7
        refine lv_aload_n hx hb d_Model_place_54 rfl (lv_at hl 0 rfl) ?_
        refine va_get (D := D) (ci := 8) (v := .ref (ad 39)) (C := R_Model) (T := F_Model) (N := 30) hx hb hts hn_Model hown hK hP 0 rfl rfl 15 (by decide) hL39 (fun _ h9 => h9) rfl d_Model_place_55 ?_
        refine lv_iload_n hx hb d_Model_place_58 rfl (lv_at hl 1 rfl) ?_
        refine lv_iload_n hx hb d_Model_place_59 rfl (lv_at hl 2 rfl) ?_
        obtain ⟨hi_8, hf⟩ := q_ck hf
        refine va_iast hx hb hK hP hD hS 1 0 rfl rfl hi_8 d_Model_place_60 (fun H locs hP hD hS => ?_)
        replace hP : va_P D vwCl [(ad 29, .inr (8, [.int 2, .int v_mod_steps, .ref (ad 30), .int v_mod_pipes, .ref (ad 31), .int v_mod_items, .ref (ad 32), .ref (ad 33), .ref (ad 34), .ref (ad 35), .ref (ad 36), .ref (ad 37), .ref (ad 38), .int v_mod_least, .int v_mod_most, .ref (ad 39), .ref (ad 40), .ref (ad 41), .ref (ad 42), .ref (ad 43), .ref (ad 44), .int (bI v_mod_hasPlan), .int v_mod_told, .ref (ad 45), .int v_mod_pieces, .ref (ad 46), .ref (ad 47), .ref (ad 48), .long v_mod_planWorth, .long v_mod_planCents])), (ad 39, .inl (ki 0, n_mput, .inl (upd v_mput (Int32.toNatClampNeg p1) p2)))] H := hP
        replace hD : va_D A [(ad 29, .inr (8, [.int 2, .int v_mod_steps, .ref (ad 30), .int v_mod_pipes, .ref (ad 31), .int v_mod_items, .ref (ad 32), .ref (ad 33), .ref (ad 34), .ref (ad 35), .ref (ad 36), .ref (ad 37), .ref (ad 38), .int v_mod_least, .int v_mod_most, .ref (ad 39), .ref (ad 40), .ref (ad 41), .ref (ad 42), .ref (ad 43), .ref (ad 44), .int (bI v_mod_hasPlan), .int v_mod_told, .ref (ad 45), .int v_mod_pieces, .ref (ad 46), .ref (ad 47), .ref (ad 48), .long v_mod_planWorth, .long v_mod_planCents])), (ad 39, .inl (ki 0, n_mput, .inl (upd v_mput (Int32.toNatClampNeg p1) p2)))] := hD
        refine lv_iconst (v := 1) hx hb d_Model_place_61 (by decide) ?_
        cases hf
        exact W.zret (v := bI true) hx hb hr (bI_nar _) (fun t ht hW => ⟨rfl, by rw [ht]; exact hP, hS.F ht⟩) hS.2.2 d_Model_place_62
      replace hf := q_it hf c_7
      refine lv_iconst (v := 0) hx hb d_Model_place_52 (by decide) ?_
      cases hf
      exact W.zret (v := bI false) hx hb hr (bI_nar _) (fun t ht hW => ⟨rfl, by rw [ht]; exact hP, hS.F ht⟩) hS.2.2 d_Model_place_53
    replace hf := q_it hf c_4
    refine lv_iconst (v := 0) hx hb d_Model_place_27 (by decide) ?_
    refine lv_goto (tgt := 32) hx hb d_Model_place_28 (by decide) ?_
    refine va_put (D := D) (ci := 8) (v := .int 0) (ty := .int) (C := R_Model) (T := F_Model) (N := 30) hx hb hts hn_Model t_Model t_Model_ok n_Model hown hK hP hD hS 0 rfl rfl 0 (by decide) hL76 (fun _ h9 => h9) rfl (by decide +kernel) rfl rfl (Nat.le_of_ble_eq_true rfl) d_Model_place_32 (fun H locs hP hD hS => ?_)
    replace hP : va_P D vwCl [(ad 29, .inr (8, [.int 0, .int v_mod_steps, .ref (ad 30), .int v_mod_pipes, .ref (ad 31), .int v_mod_items, .ref (ad 32), .ref (ad 33), .ref (ad 34), .ref (ad 35), .ref (ad 36), .ref (ad 37), .ref (ad 38), .int v_mod_least, .int v_mod_most, .ref (ad 39), .ref (ad 40), .ref (ad 41), .ref (ad 42), .ref (ad 43), .ref (ad 44), .int (bI v_mod_hasPlan), .int v_mod_told, .ref (ad 45), .int v_mod_pieces, .ref (ad 46), .ref (ad 47), .ref (ad 48), .long v_mod_planWorth, .long v_mod_planCents])), (ad 39, .inl (ki 0, n_mput, .inl v_mput))] H := hP
    replace hD : va_D A [(ad 29, .inr (8, [.int 0, .int v_mod_steps, .ref (ad 30), .int v_mod_pipes, .ref (ad 31), .int v_mod_items, .ref (ad 32), .ref (ad 33), .ref (ad 34), .ref (ad 35), .ref (ad 36), .ref (ad 37), .ref (ad 38), .int v_mod_least, .int v_mod_most, .ref (ad 39), .ref (ad 40), .ref (ad 41), .ref (ad 42), .ref (ad 43), .ref (ad 44), .int (bI v_mod_hasPlan), .int v_mod_told, .ref (ad 45), .int v_mod_pieces, .ref (ad 46), .ref (ad 47), .ref (ad 48), .long v_mod_planWorth, .long v_mod_planCents])), (ad 39, .inl (ki 0, n_mput, .inl v_mput))] := hD
    refine lv_aload_n hx hb d_Model_place_35 rfl (lv_at hl 0 rfl) ?_
    refine va_get (D := D) (ci := 8) (v := .int 0) (C := R_Model) (T := F_Model) (N := 30) hx hb hts hn_Model hown hK hP 0 rfl rfl 0 (by decide) hL76 (fun _ h9 => h9) rfl d_Model_place_36 ?_
    refine lv_if_gt (tgt := 52) hx hb d_Model_place_39 (by decide) (fun c_9 => ?_) (fun c_9 => ?_)
    · replace hf := q_it hf c_9
      refine lv_iconst (v := 0) hx hb d_Model_place_52 (by decide) ?_
      cases hf
      exact W.zret (v := bI false) hx hb hr (bI_nar _) (fun t ht hW => ⟨rfl, by rw [ht]; exact hP, hS.F ht⟩) hS.2.2 d_Model_place_53
    replace hf := q_ie hf c_9
    refine lv_aload_n hx hb d_Model_place_42 rfl (lv_at hl 0 rfl) ?_
    refine va_get (D := D) (ci := 8) (v := .ref (ad 39)) (C := R_Model) (T := F_Model) (N := 30) hx hb hts hn_Model hown hK hP 0 rfl rfl 15 (by decide) hL39 (fun _ h9 => h9) rfl d_Model_place_43 ?_
    refine lv_iload_n hx hb d_Model_place_46 rfl (lv_at hl 1 rfl) ?_
    obtain ⟨hi_10, hf⟩ := q_ck hf
    refine va_iald hx hb hK hP 1 0 rfl rfl hi_10 d_Model_place_47 ?_
    refine lv_iload_n hx hb d_Model_place_48 rfl (lv_at hl 2 rfl) ?_
    refine lv_icmp_ne (tgt := 54) hx hb d_Model_place_49 (by decide) (fun c_11 => ?_) (fun c_11 => ?_)
    · replace hf := q_ie hf c_11
      refine lv_aload_n hx hb d_Model_place_54 rfl (lv_at hl 0 rfl) ?_
      refine va_get (D := D) (ci := 8) (v := .ref (ad 39)) (C := R_Model) (T := F_Model) (N := 30) hx hb hts hn_Model hown hK hP 0 rfl rfl 15 (by decide) hL39 (fun _ h9 => h9) rfl d_Model_place_55 ?_
      refine lv_iload_n hx hb d_Model_place_58 rfl (lv_at hl 1 rfl) ?_
      refine lv_iload_n hx hb d_Model_place_59 rfl (lv_at hl 2 rfl) ?_
      obtain ⟨hi_12, hf⟩ := q_ck hf
      refine va_iast hx hb hK hP hD hS 1 0 rfl rfl hi_12 d_Model_place_60 (fun H locs hP hD hS => ?_)
      replace hP : va_P D vwCl [(ad 29, .inr (8, [.int 0, .int v_mod_steps, .ref (ad 30), .int v_mod_pipes, .ref (ad 31), .int v_mod_items, .ref (ad 32), .ref (ad 33), .ref (ad 34), .ref (ad 35), .ref (ad 36), .ref (ad 37), .ref (ad 38), .int v_mod_least, .int v_mod_most, .ref (ad 39), .ref (ad 40), .ref (ad 41), .ref (ad 42), .ref (ad 43), .ref (ad 44), .int (bI v_mod_hasPlan), .int v_mod_told, .ref (ad 45), .int v_mod_pieces, .ref (ad 46), .ref (ad 47), .ref (ad 48), .long v_mod_planWorth, .long v_mod_planCents])), (ad 39, .inl (ki 0, n_mput, .inl (upd v_mput (Int32.toNatClampNeg p1) p2)))] H := hP
      replace hD : va_D A [(ad 29, .inr (8, [.int 0, .int v_mod_steps, .ref (ad 30), .int v_mod_pipes, .ref (ad 31), .int v_mod_items, .ref (ad 32), .ref (ad 33), .ref (ad 34), .ref (ad 35), .ref (ad 36), .ref (ad 37), .ref (ad 38), .int v_mod_least, .int v_mod_most, .ref (ad 39), .ref (ad 40), .ref (ad 41), .ref (ad 42), .ref (ad 43), .ref (ad 44), .int (bI v_mod_hasPlan), .int v_mod_told, .ref (ad 45), .int v_mod_pieces, .ref (ad 46), .ref (ad 47), .ref (ad 48), .long v_mod_planWorth, .long v_mod_planCents])), (ad 39, .inl (ki 0, n_mput, .inl (upd v_mput (Int32.toNatClampNeg p1) p2)))] := hD
      refine lv_iconst (v := 1) hx hb d_Model_place_61 (by decide) ?_
      cases hf
      exact W.zret (v := bI true) hx hb hr (bI_nar _) (fun t ht hW => ⟨rfl, by rw [ht]; exact hP, hS.F ht⟩) hS.2.2 d_Model_place_62
    replace hf := q_it hf c_11
    refine lv_iconst (v := 0) hx hb d_Model_place_52 (by decide) ?_
    cases hf
    exact W.zret (v := bI false) hx hb hr (bI_nar _) (fun t ht hW => ⟨rfl, by rw [ht]; exact hP, hS.F ht⟩) hS.2.2 d_Model_place_53
  replace hf := q_ie hf c_2
  refine lv_iconst (v := 1) hx hb d_Model_place_9 (by decide) ?_
  refine lv_goto (tgt := 32) hx hb d_Model_place_10 (by decide) ?_
  refine va_put (D := D) (ci := 8) (v := .int 1) (ty := .int) (C := R_Model) (T := F_Model) (N := 30) hx hb hts hn_Model t_Model t_Model_ok n_Model hown hK hP hD hS 0 rfl rfl 0 (by decide) hL76 (fun _ h9 => h9) rfl (by decide +kernel) rfl rfl (Nat.le_of_ble_eq_true rfl) d_Model_place_32 (fun H locs hP hD hS => ?_)
  replace hP : va_P D vwCl [(ad 29, .inr (8, [.int 1, .int v_mod_steps, .ref (ad 30), .int v_mod_pipes, .ref (ad 31), .int v_mod_items, .ref (ad 32), .ref (ad 33), .ref (ad 34), .ref (ad 35), .ref (ad 36), .ref (ad 37), .ref (ad 38), .int v_mod_least, .int v_mod_most, .ref (ad 39), .ref (ad 40), .ref (ad 41), .ref (ad 42), .ref (ad 43), .ref (ad 44), .int (bI v_mod_hasPlan), .int v_mod_told, .ref (ad 45), .int v_mod_pieces, .ref (ad 46), .ref (ad 47), .ref (ad 48), .long v_mod_planWorth, .long v_mod_planCents])), (ad 39, .inl (ki 0, n_mput, .inl v_mput))] H := hP
  replace hD : va_D A [(ad 29, .inr (8, [.int 1, .int v_mod_steps, .ref (ad 30), .int v_mod_pipes, .ref (ad 31), .int v_mod_items, .ref (ad 32), .ref (ad 33), .ref (ad 34), .ref (ad 35), .ref (ad 36), .ref (ad 37), .ref (ad 38), .int v_mod_least, .int v_mod_most, .ref (ad 39), .ref (ad 40), .ref (ad 41), .ref (ad 42), .ref (ad 43), .ref (ad 44), .int (bI v_mod_hasPlan), .int v_mod_told, .ref (ad 45), .int v_mod_pieces, .ref (ad 46), .ref (ad 47), .ref (ad 48), .long v_mod_planWorth, .long v_mod_planCents])), (ad 39, .inl (ki 0, n_mput, .inl v_mput))] := hD
  refine lv_aload_n hx hb d_Model_place_35 rfl (lv_at hl 0 rfl) ?_
  refine va_get (D := D) (ci := 8) (v := .int 1) (C := R_Model) (T := F_Model) (N := 30) hx hb hts hn_Model hown hK hP 0 rfl rfl 0 (by decide) hL76 (fun _ h9 => h9) rfl d_Model_place_36 ?_
  refine lv_if_gt (tgt := 52) hx hb d_Model_place_39 (by decide) (fun c_13 => ?_) (fun c_13 => ?_)
  · replace hf := q_it hf c_13
    refine lv_iconst (v := 0) hx hb d_Model_place_52 (by decide) ?_
    cases hf
    exact W.zret (v := bI false) hx hb hr (bI_nar _) (fun t ht hW => ⟨rfl, by rw [ht]; exact hP, hS.F ht⟩) hS.2.2 d_Model_place_53
  replace hf := q_ie hf c_13
  refine lv_aload_n hx hb d_Model_place_42 rfl (lv_at hl 0 rfl) ?_
  refine va_get (D := D) (ci := 8) (v := .ref (ad 39)) (C := R_Model) (T := F_Model) (N := 30) hx hb hts hn_Model hown hK hP 0 rfl rfl 15 (by decide) hL39 (fun _ h9 => h9) rfl d_Model_place_43 ?_
  refine lv_iload_n hx hb d_Model_place_46 rfl (lv_at hl 1 rfl) ?_
  obtain ⟨hi_14, hf⟩ := q_ck hf
  refine va_iald hx hb hK hP 1 0 rfl rfl hi_14 d_Model_place_47 ?_
  refine lv_iload_n hx hb d_Model_place_48 rfl (lv_at hl 2 rfl) ?_
  refine lv_icmp_ne (tgt := 54) hx hb d_Model_place_49 (by decide) (fun c_15 => ?_) (fun c_15 => ?_)
  · replace hf := q_ie hf c_15
    refine lv_aload_n hx hb d_Model_place_54 rfl (lv_at hl 0 rfl) ?_
    refine va_get (D := D) (ci := 8) (v := .ref (ad 39)) (C := R_Model) (T := F_Model) (N := 30) hx hb hts hn_Model hown hK hP 0 rfl rfl 15 (by decide) hL39 (fun _ h9 => h9) rfl d_Model_place_55 ?_
    refine lv_iload_n hx hb d_Model_place_58 rfl (lv_at hl 1 rfl) ?_
    refine lv_iload_n hx hb d_Model_place_59 rfl (lv_at hl 2 rfl) ?_
    obtain ⟨hi_16, hf⟩ := q_ck hf
    refine va_iast hx hb hK hP hD hS 1 0 rfl rfl hi_16 d_Model_place_60 (fun H locs hP hD hS => ?_)
    replace hP : va_P D vwCl [(ad 29, .inr (8, [.int 1, .int v_mod_steps, .ref (ad 30), .int v_mod_pipes, .ref (ad 31), .int v_mod_items, .ref (ad 32), .ref (ad 33), .ref (ad 34), .ref (ad 35), .ref (ad 36), .ref (ad 37), .ref (ad 38), .int v_mod_least, .int v_mod_most, .ref (ad 39), .ref (ad 40), .ref (ad 41), .ref (ad 42), .ref (ad 43), .ref (ad 44), .int (bI v_mod_hasPlan), .int v_mod_told, .ref (ad 45), .int v_mod_pieces, .ref (ad 46), .ref (ad 47), .ref (ad 48), .long v_mod_planWorth, .long v_mod_planCents])), (ad 39, .inl (ki 0, n_mput, .inl (upd v_mput (Int32.toNatClampNeg p1) p2)))] H := hP
    replace hD : va_D A [(ad 29, .inr (8, [.int 1, .int v_mod_steps, .ref (ad 30), .int v_mod_pipes, .ref (ad 31), .int v_mod_items, .ref (ad 32), .ref (ad 33), .ref (ad 34), .ref (ad 35), .ref (ad 36), .ref (ad 37), .ref (ad 38), .int v_mod_least, .int v_mod_most, .ref (ad 39), .ref (ad 40), .ref (ad 41), .ref (ad 42), .ref (ad 43), .ref (ad 44), .int (bI v_mod_hasPlan), .int v_mod_told, .ref (ad 45), .int v_mod_pieces, .ref (ad 46), .ref (ad 47), .ref (ad 48), .long v_mod_planWorth, .long v_mod_planCents])), (ad 39, .inl (ki 0, n_mput, .inl (upd v_mput (Int32.toNatClampNeg p1) p2)))] := hD
    refine lv_iconst (v := 1) hx hb d_Model_place_61 (by decide) ?_
    cases hf
    exact W.zret (v := bI true) hx hb hr (bI_nar _) (fun t ht hW => ⟨rfl, by rw [ht]; exact hP, hS.F ht⟩) hS.2.2 d_Model_place_62
  replace hf := q_it hf c_15
  refine lv_iconst (v := 0) hx hb d_Model_place_52 (by decide) ?_
  cases hf
  exact W.zret (v := bI false) hx hb hr (bI_nar _) (fun t ht hW => ⟨rfl, by rw [ht]; exact hP, hS.F ht⟩) hS.2.2 d_Model_place_53
