def f_Model_thrown (N : Nat) (v_mod_code : Int32) (v_mod_steps : Int32) (v_mod_pipes : Int32) (v_mod_items : Int32) (v_mod_least : Int32) (v_mod_most : Int32) (v_mod_hasPlan : Bool) (v_mod_told : Int32) (v_mod_pieces : Int32) (v_mod_planWorth : Int64) (v_mod_planCents : Int64)  : Option (Int32) := (some v_mod_code)
set_option maxRecDepth 100000 in
set_option maxHeartbeats 4000000 in
theorem c_Model_thrown (l : Launch) (D : va_G) (ad : Nat → Nat) (ki : Nat → ClassId) (v_mod_code : Int32) (v_mod_steps : Int32) (v_mod_pipes : Int32) (v_mod_items : Int32) (v_mod_least : Int32) (v_mod_most : Int32) (v_mod_hasPlan : Bool) (v_mod_told : Int32) (v_mod_pieces : Int32) (v_mod_planWorth : Int64) (v_mod_planCents : Int64)  (N : Nat) (r : Int32) (hf : f_Model_thrown N v_mod_code v_mod_steps v_mod_pipes v_mod_items v_mod_least v_mod_most v_mod_hasPlan v_mod_told v_mod_pieces v_mod_planWorth v_mod_planCents = some r) : Met l y_Model_thrown w_Model_thrown { frames := 0, cells := 0, slots := 0, locals := 0 } (q_PcP [.ref (ad 29)] D vwCl [(ad 29, .inr (8, [.int v_mod_code, .int v_mod_steps, .ref (ad 30), .int v_mod_pipes, .ref (ad 31), .int v_mod_items, .ref (ad 32), .ref (ad 33), .ref (ad 34), .ref (ad 35), .ref (ad 36), .ref (ad 37), .ref (ad 38), .int v_mod_least, .int v_mod_most, .ref (ad 39), .ref (ad 40), .ref (ad 41), .ref (ad 42), .ref (ad 43), .ref (ad 44), .int (bI v_mod_hasPlan), .int v_mod_told, .ref (ad 45), .int v_mod_pieces, .ref (ad 46), .ref (ad 47), .ref (ad 48), .long v_mod_planWorth, .long v_mod_planCents]))] (TYS ki)) (k2_QcV (.int r)) 0 0 (fun _ => False) := by
  refine Met.ofW (cc := b_Model_thrown) (maxL := 1) (ret := (some .int)) (by decide) rfl ?_
  intro p e s m args below meth c s₁ B hml hv
  obtain ⟨rfl, hP, hK, hE⟩ := hv
  have hx := B.exec
  have hb := B.bytes
  have hr := B.returns
  have hts := atoms_spec (ws := w_Model_thrown) B.pre
  have hown : s.vm.findClass R_Model = some m.cls := findClass_of_methodNamed B.named
  have hlocks := B.notSynchronized
  have hn_Model : ∀ w ∈ u_ws R_Model F_Model 30, w ∈ w_Model_thrown := (fun w h => List.mem_cons_of_mem _ (i_Model w h))
  have hL76 := hts (.fieldLink R_Model 76 "RoomFillsModel" "code" "I") (List.mem_cons_of_mem _ m_843)
  replace hP : va_P D vwCl [(ad 29, .inr (8, [.int v_mod_code, .int v_mod_steps, .ref (ad 30), .int v_mod_pipes, .ref (ad 31), .int v_mod_items, .ref (ad 32), .ref (ad 33), .ref (ad 34), .ref (ad 35), .ref (ad 36), .ref (ad 37), .ref (ad 38), .int v_mod_least, .int v_mod_most, .ref (ad 39), .ref (ad 40), .ref (ad 41), .ref (ad 42), .ref (ad 43), .ref (ad 44), .int (bI v_mod_hasPlan), .int v_mod_told, .ref (ad 45), .int v_mod_pieces, .ref (ad 46), .ref (ad 47), .ref (ad 48), .long v_mod_planWorth, .long v_mod_planCents]))] s.heap := hP
  have hl := lv_entry ([.ref (ad 29)]) (n := 1) (Nat.le_of_ble_eq_true rfl)
  rw [lg_entry_eq]
  generalize (lg_sl ([.ref (ad 29)]) ++ List.replicate (1 - (lg_sl ([.ref (ad 29)])).length) Slot.unset).toArray = ls at hl ⊢
  replace hl : lv_has ls 1 [(0, .ref (ad 29))] := hl
  unfold f_Model_thrown at hf
  refine lv_aload_n hx hb d_Model_thrown_0 rfl (lv_at hl 0 rfl) ?_
  refine va_get (D := D) (ci := 8) (v := .int v_mod_code) (C := R_Model) (T := F_Model) (N := 30) hx hb hts hn_Model hown hK hP 0 rfl rfl 0 (by decide) hL76 (fun _ h9 => h9) rfl d_Model_thrown_1 ?_
  cases hf
  first | exact W.iret (v := v_mod_code) hx hb hr (fun t ht hW => ⟨rfl, ht⟩) (fun q h => nomatch h) d_Model_thrown_4 | exact W.iret (v := r) hx hb hr (fun t ht hW => ⟨rfl, ht⟩) (fun q h => nomatch h) d_Model_thrown_4
def f_Model_isIn (N : Nat)  (p1 : Int64) (p2 : Int64) (p3 : Int64) : Option (Bool) := (if (lg_cmp p1 p2) < 0 then (some false) else (if 0 < (lg_cmp p1 p3) then (some false) else (some true)))
set_option maxRecDepth 100000 in
set_option maxHeartbeats 4000000 in
theorem c_Model_isIn (l : Launch) (D : va_G) (ad : Nat → Nat) (ki : Nat → ClassId)  (p1 : Int64) (p2 : Int64) (p3 : Int64) (N : Nat) (r : Bool) (hf : f_Model_isIn N p1 p2 p3 = some r) : Met l y_Model_isIn w_Model_isIn { frames := 0, cells := 0, slots := 0, locals := 0 } (q_PcP [.long p1, .long p2, .long p3] D vwCl [] (TYS ki)) (k2_QcV (.int (bI r))) 0 0 (fun _ => False) := by
  refine Met.ofW (cc := b_Model_isIn) (maxL := 6) (ret := (some .boolean)) (by decide) rfl ?_
  intro p e s m args below meth c s₁ B hml hv
  obtain ⟨rfl, hP, hK, hE⟩ := hv
  have hx := B.exec
  have hb := B.bytes
  have hr := B.returns
  have hts := atoms_spec (ws := w_Model_isIn) B.pre
  have hown : s.vm.findClass R_Model = some m.cls := findClass_of_methodNamed B.named
  have hlocks := B.notSynchronized
  replace hP : va_P D vwCl [] s.heap := hP
  have hl := lv_entry ([.long p1, .long p2, .long p3]) (n := 6) (Nat.le_of_ble_eq_true rfl)
  rw [lg_entry_eq]
  generalize (lg_sl ([.long p1, .long p2, .long p3]) ++ List.replicate (6 - (lg_sl ([.long p1, .long p2, .long p3])).length) Slot.unset).toArray = ls at hl ⊢
  replace hl : lv_has ls 6 [(0, .long p1), (2, .long p2), (4, .long p3)] := hl
  unfold f_Model_isIn at hf
  refine lv_lload_n hx hb d_Model_isIn_0 rfl (lv_at hl 0 rfl) ?_
  refine lv_lload_n hx hb d_Model_isIn_1 rfl (lv_at hl 1 rfl) ?_
  refine W.lcmp hx hb d_Model_isIn_2 ?_
  refine lv_if_lt (tgt := 17) hx hb d_Model_isIn_3 (by decide) (fun c_1 => ?_) (fun c_1 => ?_)
  · replace hf := q_it hf c_1
    refine lv_iconst (v := 0) hx hb d_Model_isIn_17 (by decide) ?_
    cases hf
    exact W.zret (v := bI false) hx hb hr (bI_nar _) (fun t ht hW => ⟨rfl, ht⟩) (fun q h => nomatch h) d_Model_isIn_18
  replace hf := q_ie hf c_1
  refine lv_lload_n hx hb d_Model_isIn_6 rfl (lv_at hl 0 rfl) ?_
  refine lv_lload hx hb d_Model_isIn_7 (lv_at hl 2 rfl) ?_
  refine W.lcmp hx hb d_Model_isIn_9 ?_
  refine lv_if_gt (tgt := 17) hx hb d_Model_isIn_10 (by decide) (fun c_2 => ?_) (fun c_2 => ?_)
  · replace hf := q_it hf c_2
    refine lv_iconst (v := 0) hx hb d_Model_isIn_17 (by decide) ?_
    cases hf
    exact W.zret (v := bI false) hx hb hr (bI_nar _) (fun t ht hW => ⟨rfl, ht⟩) (fun q h => nomatch h) d_Model_isIn_18
  replace hf := q_ie hf c_2
  refine lv_iconst (v := 1) hx hb d_Model_isIn_13 (by decide) ?_
  refine lv_goto (tgt := 18) hx hb d_Model_isIn_14 (by decide) ?_
  cases hf
  exact W.zret (v := bI true) hx hb hr (bI_nar _) (fun t ht hW => ⟨rfl, ht⟩) (fun q h => nomatch h) d_Model_isIn_18
def f_Model_change (N : Nat) (v_mod_code : Int32) (v_mod_steps : Int32) (v_mod_pipes : Int32) (v_mod_items : Int32) (v_mod_least : Int32) (v_mod_most : Int32) (v_mod_hasPlan : Bool) (v_mod_told : Int32) (v_mod_pieces : Int32) (v_mod_planWorth : Int64) (v_mod_planCents : Int64)  : Option (Bool) := (some false)
set_option maxRecDepth 100000 in
set_option maxHeartbeats 4000000 in
theorem c_Model_change (l : Launch) (D : va_G) (ad : Nat → Nat) (ki : Nat → ClassId) (v_mod_code : Int32) (v_mod_steps : Int32) (v_mod_pipes : Int32) (v_mod_items : Int32) (v_mod_least : Int32) (v_mod_most : Int32) (v_mod_hasPlan : Bool) (v_mod_told : Int32) (v_mod_pieces : Int32) (v_mod_planWorth : Int64) (v_mod_planCents : Int64)  (N : Nat) (sz : Nat) (ov_mod_hasPlan : Bool) (hf : f_Model_change N v_mod_code v_mod_steps v_mod_pipes v_mod_items v_mod_least v_mod_most v_mod_hasPlan v_mod_told v_mod_pieces v_mod_planWorth v_mod_planCents = some ov_mod_hasPlan) : Met l y_Model_change w_Model_change { frames := 0, cells := 0, slots := 0, locals := 0 } (q_PcM [.ref (ad 29)] D vwCl [(ad 29, .inr (8, [.int v_mod_code, .int v_mod_steps, .ref (ad 30), .int v_mod_pipes, .ref (ad 31), .int v_mod_items, .ref (ad 32), .ref (ad 33), .ref (ad 34), .ref (ad 35), .ref (ad 36), .ref (ad 37), .ref (ad 38), .int v_mod_least, .int v_mod_most, .ref (ad 39), .ref (ad 40), .ref (ad 41), .ref (ad 42), .ref (ad 43), .ref (ad 44), .int (bI v_mod_hasPlan), .int v_mod_told, .ref (ad 45), .int v_mod_pieces, .ref (ad 46), .ref (ad 47), .ref (ad 48), .long v_mod_planWorth, .long v_mod_planCents]))] (TYS ki) sz) (q_Qm (none) D vwCl [(ad 29, .inr (8, [.int v_mod_code, .int v_mod_steps, .ref (ad 30), .int v_mod_pipes, .ref (ad 31), .int v_mod_items, .ref (ad 32), .ref (ad 33), .ref (ad 34), .ref (ad 35), .ref (ad 36), .ref (ad 37), .ref (ad 38), .int v_mod_least, .int v_mod_most, .ref (ad 39), .ref (ad 40), .ref (ad 41), .ref (ad 42), .ref (ad 43), .ref (ad 44), .int (bI ov_mod_hasPlan), .int v_mod_told, .ref (ad 45), .int v_mod_pieces, .ref (ad 46), .ref (ad 47), .ref (ad 48), .long v_mod_planWorth, .long v_mod_planCents]))] (va_A [(ad 29, .inr (8, [.int v_mod_code, .int v_mod_steps, .ref (ad 30), .int v_mod_pipes, .ref (ad 31), .int v_mod_items, .ref (ad 32), .ref (ad 33), .ref (ad 34), .ref (ad 35), .ref (ad 36), .ref (ad 37), .ref (ad 38), .int v_mod_least, .int v_mod_most, .ref (ad 39), .ref (ad 40), .ref (ad 41), .ref (ad 42), .ref (ad 43), .ref (ad 44), .int (bI v_mod_hasPlan), .int v_mod_told, .ref (ad 45), .int v_mod_pieces, .ref (ad 46), .ref (ad 47), .ref (ad 48), .long v_mod_planWorth, .long v_mod_planCents]))] sz)) 0 0 (va_A [(ad 29, .inr (8, [.int v_mod_code, .int v_mod_steps, .ref (ad 30), .int v_mod_pipes, .ref (ad 31), .int v_mod_items, .ref (ad 32), .ref (ad 33), .ref (ad 34), .ref (ad 35), .ref (ad 36), .ref (ad 37), .ref (ad 38), .int v_mod_least, .int v_mod_most, .ref (ad 39), .ref (ad 40), .ref (ad 41), .ref (ad 42), .ref (ad 43), .ref (ad 44), .int (bI v_mod_hasPlan), .int v_mod_told, .ref (ad 45), .int v_mod_pieces, .ref (ad 46), .ref (ad 47), .ref (ad 48), .long v_mod_planWorth, .long v_mod_planCents]))] sz) := by
  refine Met.ofW (cc := b_Model_change) (maxL := 1) (ret := none) (by decide) rfl ?_
  intro p e s m args below meth c s₁ B hml hv
  obtain ⟨rfl, hsz, hP, hK, hD0, hE⟩ := hv
  have hx := B.exec
  have hb := B.bytes
  have hr := B.returns
  have hts := atoms_spec (ws := w_Model_change) B.pre
  have hown : s.vm.findClass R_Model = some m.cls := findClass_of_methodNamed B.named
  have hlocks := B.notSynchronized
  have hn_Model : ∀ w ∈ u_ws R_Model F_Model 30, w ∈ w_Model_change := (fun w h => List.mem_cons_of_mem _ (i_Model w h))
  have hL79 := hts (.fieldLink R_Model 79 "RoomFillsModel" "hasPlan" "Z") (List.mem_cons_of_mem _ m_864)
  subst hsz
  have hD := hD0.self (sz := s.heap.size)
  generalize hAe : va_A [(ad 29, .inr (8, [.int v_mod_code, .int v_mod_steps, .ref (ad 30), .int v_mod_pipes, .ref (ad 31), .int v_mod_items, .ref (ad 32), .ref (ad 33), .ref (ad 34), .ref (ad 35), .ref (ad 36), .ref (ad 37), .ref (ad 38), .int v_mod_least, .int v_mod_most, .ref (ad 39), .ref (ad 40), .ref (ad 41), .ref (ad 42), .ref (ad 43), .ref (ad 44), .int (bI v_mod_hasPlan), .int v_mod_told, .ref (ad 45), .int v_mod_pieces, .ref (ad 46), .ref (ad 47), .ref (ad 48), .long v_mod_planWorth, .long v_mod_planCents]))] s.heap.size = A at hD ⊢
  have hA : ∀ q : Nat, s.heap.size ≤ q → A q := fun q h => by rw [← hAe]; exact Or.inr h
  have hS : va_S A s.heap s.heap [] := va_S.rf
  replace hP : va_P D vwCl [(ad 29, .inr (8, [.int v_mod_code, .int v_mod_steps, .ref (ad 30), .int v_mod_pipes, .ref (ad 31), .int v_mod_items, .ref (ad 32), .ref (ad 33), .ref (ad 34), .ref (ad 35), .ref (ad 36), .ref (ad 37), .ref (ad 38), .int v_mod_least, .int v_mod_most, .ref (ad 39), .ref (ad 40), .ref (ad 41), .ref (ad 42), .ref (ad 43), .ref (ad 44), .int (bI v_mod_hasPlan), .int v_mod_told, .ref (ad 45), .int v_mod_pieces, .ref (ad 46), .ref (ad 47), .ref (ad 48), .long v_mod_planWorth, .long v_mod_planCents]))] s.heap := hP
  have hl := lv_entry ([.ref (ad 29)]) (n := 1) (Nat.le_of_ble_eq_true rfl)
  rw [lg_entry_eq]
  generalize (lg_sl ([.ref (ad 29)]) ++ List.replicate (1 - (lg_sl ([.ref (ad 29)])).length) Slot.unset).toArray = ls at hl ⊢
  replace hl : lv_has ls 1 [(0, .ref (ad 29))] := hl
  unfold f_Model_change at hf
  refine lv_aload_n hx hb d_Model_change_0 rfl (lv_at hl 0 rfl) ?_
  refine lv_iconst (v := 0) hx hb d_Model_change_1 (by decide) ?_
  refine va_put (D := D) (ci := 8) (v := .int (bI false)) (ty := .boolean) (C := R_Model) (T := F_Model) (N := 30) hx hb hts hn_Model t_Model t_Model_ok n_Model hown hK hP hD hS 0 rfl rfl 21 (by decide) hL79 (fun _ h9 => h9) rfl (by decide +kernel) (bI_nar _) (bI_fit _) (Nat.le_of_ble_eq_true rfl) d_Model_change_2 (fun H locs hP hD hS => ?_)
  replace hP : va_P D vwCl [(ad 29, .inr (8, [.int v_mod_code, .int v_mod_steps, .ref (ad 30), .int v_mod_pipes, .ref (ad 31), .int v_mod_items, .ref (ad 32), .ref (ad 33), .ref (ad 34), .ref (ad 35), .ref (ad 36), .ref (ad 37), .ref (ad 38), .int v_mod_least, .int v_mod_most, .ref (ad 39), .ref (ad 40), .ref (ad 41), .ref (ad 42), .ref (ad 43), .ref (ad 44), .int (bI false), .int v_mod_told, .ref (ad 45), .int v_mod_pieces, .ref (ad 46), .ref (ad 47), .ref (ad 48), .long v_mod_planWorth, .long v_mod_planCents]))] H := hP
  replace hD : va_D A [(ad 29, .inr (8, [.int v_mod_code, .int v_mod_steps, .ref (ad 30), .int v_mod_pipes, .ref (ad 31), .int v_mod_items, .ref (ad 32), .ref (ad 33), .ref (ad 34), .ref (ad 35), .ref (ad 36), .ref (ad 37), .ref (ad 38), .int v_mod_least, .int v_mod_most, .ref (ad 39), .ref (ad 40), .ref (ad 41), .ref (ad 42), .ref (ad 43), .ref (ad 44), .int (bI false), .int v_mod_told, .ref (ad 45), .int v_mod_pieces, .ref (ad 46), .ref (ad 47), .ref (ad 48), .long v_mod_planWorth, .long v_mod_planCents]))] := hD
  cases hf
  exact W.vret hx hb hr (fun t ht hW => ⟨rfl, by rw [ht]; exact hP, hS.F ht⟩) hS.2.2 d_Model_change_5
def f_Model_door_cut (N : Nat) (n_mfree : Nat) (v_mod_steps : Int32) (v_mod_pipes : Int32) (v_mod_items : Int32) (v_mod_least : Int32) (v_mod_most : Int32) (v_mod_told : Int32) (v_mod_pieces : Int32) (v_mod_planWorth : Int64) (v_mod_planCents : Int64) : Nat → Nat → Int32 → Int32 → Bool → Int32 → (Int32) → (Bool) → (Nat → Int32) → Option (Bool × Int32 × Bool × (Nat → Int32))
  | 0, _, _, _, _, _, _, _, _ => none
  | n + 1, t, x1, x2, x3, x4, v_mod_code, v_mod_hasPlan, v_mfree => (if x2 ≤ x4 then (if x3 = true then (Option.bind (f_Model_change N v_mod_code v_mod_steps v_mod_pipes v_mod_items v_mod_least v_mod_most v_mod_hasPlan v_mod_told v_mod_pieces v_mod_planWorth v_mod_planCents) (fun v_mod_hasPlan_3 => (some (x3, v_mod_code, v_mod_hasPlan_3, v_mfree)))) else (some (x3, v_mod_code, v_mod_hasPlan, v_mfree))) else (if v_mod_code = 0 then (if x3 = true then (if x4 < 0 ∨ n_mfree ≤ Int32.toNatClampNeg x4 then none else (f_Model_door_cut N n_mfree v_mod_steps v_mod_pipes v_mod_items v_mod_least v_mod_most v_mod_told v_mod_pieces v_mod_planWorth v_mod_planCents n 0 x1 x2 true (x4 + 1) v_mod_code v_mod_hasPlan (upd v_mfree (Int32.toNatClampNeg x4) (vp_nar .boolean 1)))) else (if x4 < 0 ∨ n_mfree ≤ Int32.toNatClampNeg x4 then none else (if (v_mfree (Int32.toNatClampNeg x4)) = 0 then (if x4 < 0 ∨ n_mfree ≤ Int32.toNatClampNeg x4 then none else (f_Model_door_cut N n_mfree v_mod_steps v_mod_pipes v_mod_items v_mod_least v_mod_most v_mod_told v_mod_pieces v_mod_planWorth v_mod_planCents n 0 x1 x2 true (x4 + 1) v_mod_code v_mod_hasPlan (upd v_mfree (Int32.toNatClampNeg x4) (vp_nar .boolean 1)))) else (if x4 < 0 ∨ n_mfree ≤ Int32.toNatClampNeg x4 then none else (f_Model_door_cut N n_mfree v_mod_steps v_mod_pipes v_mod_items v_mod_least v_mod_most v_mod_told v_mod_pieces v_mod_planWorth v_mod_planCents n 0 x1 x2 false (x4 + 1) v_mod_code v_mod_hasPlan (upd v_mfree (Int32.toNatClampNeg x4) (vp_nar .boolean 1))))))) else (if x3 = true then (Option.bind (f_Model_change N v_mod_code v_mod_steps v_mod_pipes v_mod_items v_mod_least v_mod_most v_mod_hasPlan v_mod_told v_mod_pieces v_mod_planWorth v_mod_planCents) (fun v_mod_hasPlan_6 => (some (x3, v_mod_code, v_mod_hasPlan_6, v_mfree)))) else (some (x3, v_mod_code, v_mod_hasPlan, v_mfree)))))
theorem f_Model_door_cut_0 (N : Nat) (n_mfree : Nat) (v_mod_steps : Int32) (v_mod_pipes : Int32) (v_mod_items : Int32) (v_mod_least : Int32) (v_mod_most : Int32) (v_mod_told : Int32) (v_mod_pieces : Int32) (v_mod_planWorth : Int64) (v_mod_planCents : Int64) (n : Nat) (x1 : Int32) (x2 : Int32) (x3 : Bool) (x4 : Int32) (v_mod_code : Int32) (v_mod_hasPlan : Bool) (v_mfree : Nat → Int32) : f_Model_door_cut N n_mfree v_mod_steps v_mod_pipes v_mod_items v_mod_least v_mod_most v_mod_told v_mod_pieces v_mod_planWorth v_mod_planCents (n + 1) 0 x1 x2 x3 x4 v_mod_code v_mod_hasPlan v_mfree = (if x2 ≤ x4 then (if x3 = true then (Option.bind (f_Model_change N v_mod_code v_mod_steps v_mod_pipes v_mod_items v_mod_least v_mod_most v_mod_hasPlan v_mod_told v_mod_pieces v_mod_planWorth v_mod_planCents) (fun v_mod_hasPlan_3 => (some (x3, v_mod_code, v_mod_hasPlan_3, v_mfree)))) else (some (x3, v_mod_code, v_mod_hasPlan, v_mfree))) else (if v_mod_code = 0 then (if x3 = true then (if x4 < 0 ∨ n_mfree ≤ Int32.toNatClampNeg x4 then none else (f_Model_door_cut N n_mfree v_mod_steps v_mod_pipes v_mod_items v_mod_least v_mod_most v_mod_told v_mod_pieces v_mod_planWorth v_mod_planCents n 0 x1 x2 true (x4 + 1) v_mod_code v_mod_hasPlan (upd v_mfree (Int32.toNatClampNeg x4) (vp_nar .boolean 1)))) else (if x4 < 0 ∨ n_mfree ≤ Int32.toNatClampNeg x4 then none else (if (v_mfree (Int32.toNatClampNeg x4)) = 0 then (if x4 < 0 ∨ n_mfree ≤ Int32.toNatClampNeg x4 then none else (f_Model_door_cut N n_mfree v_mod_steps v_mod_pipes v_mod_items v_mod_least v_mod_most v_mod_told v_mod_pieces v_mod_planWorth v_mod_planCents n 0 x1 x2 true (x4 + 1) v_mod_code v_mod_hasPlan (upd v_mfree (Int32.toNatClampNeg x4) (vp_nar .boolean 1)))) else (if x4 < 0 ∨ n_mfree ≤ Int32.toNatClampNeg x4 then none else (f_Model_door_cut N n_mfree v_mod_steps v_mod_pipes v_mod_items v_mod_least v_mod_most v_mod_told v_mod_pieces v_mod_planWorth v_mod_planCents n 0 x1 x2 false (x4 + 1) v_mod_code v_mod_hasPlan (upd v_mfree (Int32.toNatClampNeg x4) (vp_nar .boolean 1))))))) else (if x3 = true then (Option.bind (f_Model_change N v_mod_code v_mod_steps v_mod_pipes v_mod_items v_mod_least v_mod_most v_mod_hasPlan v_mod_told v_mod_pieces v_mod_planWorth v_mod_planCents) (fun v_mod_hasPlan_6 => (some (x3, v_mod_code, v_mod_hasPlan_6, v_mfree)))) else (some (x3, v_mod_code, v_mod_hasPlan, v_mfree))))) := rfl
def f_Model_door (N : Nat) (n_mfree : Nat) (v_mod_code : Int32) (v_mod_steps : Int32) (v_mod_pipes : Int32) (v_mod_items : Int32) (v_mod_least : Int32) (v_mod_most : Int32) (v_mod_hasPlan : Bool) (v_mod_told : Int32) (v_mod_pieces : Int32) (v_mod_planWorth : Int64) (v_mod_planCents : Int64) (v_mfree : Nat → Int32) (p1 : Int32) (p2 : Int32) : Option (Bool × Int32 × Bool × (Nat → Int32)) := (if p1 < 0 then (f_Model_door_cut N n_mfree v_mod_steps v_mod_pipes v_mod_items v_mod_least v_mod_most v_mod_told v_mod_pieces v_mod_planWorth v_mod_planCents N 0 p1 p2 false p1 1 v_mod_hasPlan v_mfree) else (if v_mod_steps ≤ p1 then (f_Model_door_cut N n_mfree v_mod_steps v_mod_pipes v_mod_items v_mod_least v_mod_most v_mod_told v_mod_pieces v_mod_planWorth v_mod_planCents N 0 p1 p2 false p1 1 v_mod_hasPlan v_mfree) else (if p2 ≤ p1 then (f_Model_door_cut N n_mfree v_mod_steps v_mod_pipes v_mod_items v_mod_least v_mod_most v_mod_told v_mod_pieces v_mod_planWorth v_mod_planCents N 0 p1 p2 false p1 1 v_mod_hasPlan v_mfree) else (if p2 ≤ v_mod_steps then (f_Model_door_cut N n_mfree v_mod_steps v_mod_pipes v_mod_items v_mod_least v_mod_most v_mod_told v_mod_pieces v_mod_planWorth v_mod_planCents N 0 p1 p2 false p1 0 v_mod_hasPlan v_mfree) else (f_Model_door_cut N n_mfree v_mod_steps v_mod_pipes v_mod_items v_mod_least v_mod_most v_mod_told v_mod_pieces v_mod_planWorth v_mod_planCents N 0 p1 p2 false p1 1 v_mod_hasPlan v_mfree)))))
set_option maxRecDepth 100000 in
set_option maxHeartbeats 4000000 in
theorem c_Model_door (l : Launch) (D : va_G) (ad : Nat → Nat) (ki : Nat → ClassId) (n_mfree : Nat) (v_mod_code : Int32) (v_mod_steps : Int32) (v_mod_pipes : Int32) (v_mod_items : Int32) (v_mod_least : Int32) (v_mod_most : Int32) (v_mod_hasPlan : Bool) (v_mod_told : Int32) (v_mod_pieces : Int32) (v_mod_planWorth : Int64) (v_mod_planCents : Int64) (v_mfree : Nat → Int32) (p1 : Int32) (p2 : Int32) (N : Nat) (sz : Nat) (r : Bool) (ov_mod_code : Int32) (ov_mod_hasPlan : Bool) (ov_mfree : Nat → Int32) (hf : f_Model_door N n_mfree v_mod_code v_mod_steps v_mod_pipes v_mod_items v_mod_least v_mod_most v_mod_hasPlan v_mod_told v_mod_pieces v_mod_planWorth v_mod_planCents v_mfree p1 p2 = some (r, ov_mod_code, ov_mod_hasPlan, ov_mfree)) : Met l y_Model_door w_Model_door { frames := 1, cells := 0, slots := 0, locals := 20 } (q_PcM [.ref (ad 29), .int p1, .int p2] D vwCl [(ad 29, .inr (8, [.int v_mod_code, .int v_mod_steps, .ref (ad 30), .int v_mod_pipes, .ref (ad 31), .int v_mod_items, .ref (ad 32), .ref (ad 33), .ref (ad 34), .ref (ad 35), .ref (ad 36), .ref (ad 37), .ref (ad 38), .int v_mod_least, .int v_mod_most, .ref (ad 39), .ref (ad 40), .ref (ad 41), .ref (ad 42), .ref (ad 43), .ref (ad 44), .int (bI v_mod_hasPlan), .int v_mod_told, .ref (ad 45), .int v_mod_pieces, .ref (ad 46), .ref (ad 47), .ref (ad 48), .long v_mod_planWorth, .long v_mod_planCents])), (ad 30, .inl (ki 2, n_mfree, .inl v_mfree))] (TYS ki) sz) (q_Qm (some (.int (bI r))) D vwCl [(ad 29, .inr (8, [.int ov_mod_code, .int v_mod_steps, .ref (ad 30), .int v_mod_pipes, .ref (ad 31), .int v_mod_items, .ref (ad 32), .ref (ad 33), .ref (ad 34), .ref (ad 35), .ref (ad 36), .ref (ad 37), .ref (ad 38), .int v_mod_least, .int v_mod_most, .ref (ad 39), .ref (ad 40), .ref (ad 41), .ref (ad 42), .ref (ad 43), .ref (ad 44), .int (bI ov_mod_hasPlan), .int v_mod_told, .ref (ad 45), .int v_mod_pieces, .ref (ad 46), .ref (ad 47), .ref (ad 48), .long v_mod_planWorth, .long v_mod_planCents])), (ad 30, .inl (ki 2, n_mfree, .inl ov_mfree))] (va_A [(ad 29, .inr (8, [.int v_mod_code, .int v_mod_steps, .ref (ad 30), .int v_mod_pipes, .ref (ad 31), .int v_mod_items, .ref (ad 32), .ref (ad 33), .ref (ad 34), .ref (ad 35), .ref (ad 36), .ref (ad 37), .ref (ad 38), .int v_mod_least, .int v_mod_most, .ref (ad 39), .ref (ad 40), .ref (ad 41), .ref (ad 42), .ref (ad 43), .ref (ad 44), .int (bI v_mod_hasPlan), .int v_mod_told, .ref (ad 45), .int v_mod_pieces, .ref (ad 46), .ref (ad 47), .ref (ad 48), .long v_mod_planWorth, .long v_mod_planCents])), (ad 30, .inl (ki 2, n_mfree, .inl v_mfree))] sz)) 0 0 (va_A [(ad 29, .inr (8, [.int v_mod_code, .int v_mod_steps, .ref (ad 30), .int v_mod_pipes, .ref (ad 31), .int v_mod_items, .ref (ad 32), .ref (ad 33), .ref (ad 34), .ref (ad 35), .ref (ad 36), .ref (ad 37), .ref (ad 38), .int v_mod_least, .int v_mod_most, .ref (ad 39), .ref (ad 40), .ref (ad 41), .ref (ad 42), .ref (ad 43), .ref (ad 44), .int (bI v_mod_hasPlan), .int v_mod_told, .ref (ad 45), .int v_mod_pieces, .ref (ad 46), .ref (ad 47), .ref (ad 48), .long v_mod_planWorth, .long v_mod_planCents])), (ad 30, .inl (ki 2, n_mfree, .inl v_mfree))] sz) := by
  refine Met.ofW (cc := b_Model_door) (maxL := 5) (ret := (some .boolean)) (by decide) rfl ?_
  intro p e s m args below meth c s₁ B hml hv
  obtain ⟨rfl, hsz, hP, hK, hD0, hE⟩ := hv
  have hx := B.exec
  have hb := B.bytes
  have hr := B.returns
  have hts := atoms_spec (ws := w_Model_door) B.pre
  have hown : s.vm.findClass R_Model = some m.cls := findClass_of_methodNamed B.named
  have hlocks := B.notSynchronized
  have hn_Model : ∀ w ∈ u_ws R_Model F_Model 30, w ∈ w_Model_door := (fun w h => List.mem_cons_of_mem _ (i_Model w h))
  have hL7 := hts (.fieldLink R_Model 7 "RoomFillsModel" "free" "[Z") (List.mem_cons_of_mem _ m_845)
  have hL69 := hts (.fieldLink R_Model 69 "RoomFillsModel" "steps" "I") (List.mem_cons_of_mem _ m_844)
  have hL76 := hts (.fieldLink R_Model 76 "RoomFillsModel" "code" "I") (List.mem_cons_of_mem _ m_843)
  subst hsz
  have hD := hD0.self (sz := s.heap.size)
  generalize hAe : va_A [(ad 29, .inr (8, [.int v_mod_code, .int v_mod_steps, .ref (ad 30), .int v_mod_pipes, .ref (ad 31), .int v_mod_items, .ref (ad 32), .ref (ad 33), .ref (ad 34), .ref (ad 35), .ref (ad 36), .ref (ad 37), .ref (ad 38), .int v_mod_least, .int v_mod_most, .ref (ad 39), .ref (ad 40), .ref (ad 41), .ref (ad 42), .ref (ad 43), .ref (ad 44), .int (bI v_mod_hasPlan), .int v_mod_told, .ref (ad 45), .int v_mod_pieces, .ref (ad 46), .ref (ad 47), .ref (ad 48), .long v_mod_planWorth, .long v_mod_planCents])), (ad 30, .inl (ki 2, n_mfree, .inl v_mfree))] s.heap.size = A at hD ⊢
  have hA : ∀ q : Nat, s.heap.size ≤ q → A q := fun q h => by rw [← hAe]; exact Or.inr h
  have hS : va_S A s.heap s.heap [] := va_S.rf
  replace hP : va_P D vwCl [(ad 29, .inr (8, [.int v_mod_code, .int v_mod_steps, .ref (ad 30), .int v_mod_pipes, .ref (ad 31), .int v_mod_items, .ref (ad 32), .ref (ad 33), .ref (ad 34), .ref (ad 35), .ref (ad 36), .ref (ad 37), .ref (ad 38), .int v_mod_least, .int v_mod_most, .ref (ad 39), .ref (ad 40), .ref (ad 41), .ref (ad 42), .ref (ad 43), .ref (ad 44), .int (bI v_mod_hasPlan), .int v_mod_told, .ref (ad 45), .int v_mod_pieces, .ref (ad 46), .ref (ad 47), .ref (ad 48), .long v_mod_planWorth, .long v_mod_planCents])), (ad 30, .inl (ki 2, n_mfree, .inl v_mfree))] s.heap := hP
  have hl := lv_entry ([.ref (ad 29), .int p1, .int p2]) (n := 5) (Nat.le_of_ble_eq_true rfl)
  rw [lg_entry_eq]
  generalize (lg_sl ([.ref (ad 29), .int p1, .int p2]) ++ List.replicate (5 - (lg_sl ([.ref (ad 29), .int p1, .int p2])).length) Slot.unset).toArray = ls at hl ⊢
  replace hl : lv_has ls 5 [(0, .ref (ad 29)), (1, .int p1), (2, .int p2)] := hl
  have key : ∀ n : Nat, (∀ (x1 : Int32) (x2 : Int32) (x3 : Bool) (x4 : Int32) (v_mod_code : Int32) (v_mod_hasPlan : Bool) (v_mfree : Nat → Int32), f_Model_door_cut N n_mfree v_mod_steps v_mod_pipes v_mod_items v_mod_least v_mod_most v_mod_told v_mod_pieces v_mod_planWorth v_mod_planCents n 0 x1 x2 x3 x4 v_mod_code v_mod_hasPlan v_mfree = some (r, ov_mod_code, ov_mod_hasPlan, ov_mfree) → ∀ (H : Heap) (locs : List Loc), va_P D vwCl [(ad 29, .inr (8, [.int v_mod_code, .int v_mod_steps, .ref (ad 30), .int v_mod_pipes, .ref (ad 31), .int v_mod_items, .ref (ad 32), .ref (ad 33), .ref (ad 34), .ref (ad 35), .ref (ad 36), .ref (ad 37), .ref (ad 38), .int v_mod_least, .int v_mod_most, .ref (ad 39), .ref (ad 40), .ref (ad 41), .ref (ad 42), .ref (ad 43), .ref (ad 44), .int (bI v_mod_hasPlan), .int v_mod_told, .ref (ad 45), .int v_mod_pieces, .ref (ad 46), .ref (ad 47), .ref (ad 48), .long v_mod_planWorth, .long v_mod_planCents])), (ad 30, .inl (ki 2, n_mfree, .inl v_mfree))] H → va_D A [(ad 29, .inr (8, [.int v_mod_code, .int v_mod_steps, .ref (ad 30), .int v_mod_pipes, .ref (ad 31), .int v_mod_items, .ref (ad 32), .ref (ad 33), .ref (ad 34), .ref (ad 35), .ref (ad 36), .ref (ad 37), .ref (ad 38), .int v_mod_least, .int v_mod_most, .ref (ad 39), .ref (ad 40), .ref (ad 41), .ref (ad 42), .ref (ad 43), .ref (ad 44), .int (bI v_mod_hasPlan), .int v_mod_told, .ref (ad 45), .int v_mod_pieces, .ref (ad 46), .ref (ad 47), .ref (ad 48), .long v_mod_planWorth, .long v_mod_planCents])), (ad 30, .inl (ki 2, n_mfree, .inl v_mfree))] → va_S A s.heap H locs → ∀ (ls : Array Slot), lv_has ls 5 [(0, .ref (ad 29)), (1, .int x1), (2, .int x2), (3, .int (bI x3)), (4, .int x4)] → W p l e (headSpec w_Model_door { frames := 1, cells := 0, slots := 0, locals := 20 }).room s m ([.ref (ad 29), .int p1, .int p2] : List Value).toArray below meth c H locs 0 0 (MQ below (q_Qm (some (.int (bI r))) D vwCl [(ad 29, .inr (8, [.int ov_mod_code, .int v_mod_steps, .ref (ad 30), .int v_mod_pipes, .ref (ad 31), .int v_mod_items, .ref (ad 32), .ref (ad 33), .ref (ad 34), .ref (ad 35), .ref (ad 36), .ref (ad 37), .ref (ad 38), .int v_mod_least, .int v_mod_most, .ref (ad 39), .ref (ad 40), .ref (ad 41), .ref (ad 42), .ref (ad 43), .ref (ad 44), .int (bI ov_mod_hasPlan), .int v_mod_told, .ref (ad 45), .int v_mod_pieces, .ref (ad 46), .ref (ad 47), .ref (ad 48), .long v_mod_planWorth, .long v_mod_planCents])), (ad 30, .inl (ki 2, n_mfree, .inl ov_mfree))] A) ([.ref (ad 29), .int p1, .int p2] : List Value).toArray s 0 0 A) (F0 m 39 ls [])) := by
    intro n
    induction n with
    | zero =>
      exact fun x1 x2 x3 x4 v_mod_code v_mod_hasPlan v_mfree hf => (nomatch (show none = some _ from hf))
    | succ n ih =>
      intro x1 x2 x3 x4 v_mod_code v_mod_hasPlan v_mfree hf H locs hP hD hS ls hl
      rw [f_Model_door_cut_0] at hf
      refine lv_iload hx hb d_Model_door_39 (lv_at hl 4 rfl) ?_
      refine lv_iload_n hx hb d_Model_door_41 rfl (lv_at hl 2 rfl) ?_
      refine lv_icmp_ge (tgt := 86) hx hb d_Model_door_42 (by decide) (fun c_1 => ?_) (fun c_1 => ?_)
      · replace hf := q_it hf c_1
        refine lv_iload_n hx hb d_Model_door_86 rfl (lv_at hl 3 rfl) ?_
        refine zv_eq (tgt := 94) hx hb d_Model_door_87 (by decide) (fun c_2 => ?_) (fun c_2 => ?_)
        · replace hf := q_ie hf c_2
          refine lv_iload_n hx hb d_Model_door_94 rfl (lv_at hl 3 rfl) ?_
          cases hf
          first | exact W.zret (v := bI x3) hx hb hr (bI_nar _) (fun t ht hW => ⟨rfl, by rw [ht]; exact hP, hS.F ht⟩) hS.2.2 d_Model_door_95 | exact W.zret (v := bI r) hx hb hr (bI_nar _) (fun t ht hW => ⟨rfl, by rw [ht]; exact hP, hS.F ht⟩) hS.2.2 d_Model_door_95
        replace hf := q_it hf c_2
        refine lv_aload_n hx hb d_Model_door_90 rfl (lv_at hl 0 rfl) ?_
        obtain ⟨v_mod_hasPlan_3, hc_3, hf⟩ := q_mb hf
        have hC_3 : ([0] : List Nat).map (fun i => ([(ad 29, .inr (8, [.int v_mod_code, .int v_mod_steps, .ref (ad 30), .int v_mod_pipes, .ref (ad 31), .int v_mod_items, .ref (ad 32), .ref (ad 33), .ref (ad 34), .ref (ad 35), .ref (ad 36), .ref (ad 37), .ref (ad 38), .int v_mod_least, .int v_mod_most, .ref (ad 39), .ref (ad 40), .ref (ad 41), .ref (ad 42), .ref (ad 43), .ref (ad 44), .int (bI v_mod_hasPlan), .int v_mod_told, .ref (ad 45), .int v_mod_pieces, .ref (ad 46), .ref (ad 47), .ref (ad 48), .long v_mod_planWorth, .long v_mod_planCents])), (ad 30, .inl (ki 2, n_mfree, .inl v_mfree))] : va_W)[i]?) = ([(ad 29, .inr (8, [.int v_mod_code, .int v_mod_steps, .ref (ad 30), .int v_mod_pipes, .ref (ad 31), .int v_mod_items, .ref (ad 32), .ref (ad 33), .ref (ad 34), .ref (ad 35), .ref (ad 36), .ref (ad 37), .ref (ad 38), .int v_mod_least, .int v_mod_most, .ref (ad 39), .ref (ad 40), .ref (ad 41), .ref (ad 42), .ref (ad 43), .ref (ad 44), .int (bI v_mod_hasPlan), .int v_mod_told, .ref (ad 45), .int v_mod_pieces, .ref (ad 46), .ref (ad 47), .ref (ad 48), .long v_mod_planWorth, .long v_mod_planCents]))] : va_W).map some := rfl
        refine q_mcall3 (w1 := [(ad 29, .inr (8, [.int v_mod_code, .int v_mod_steps, .ref (ad 30), .int v_mod_pipes, .ref (ad 31), .int v_mod_items, .ref (ad 32), .ref (ad 33), .ref (ad 34), .ref (ad 35), .ref (ad 36), .ref (ad 37), .ref (ad 38), .int v_mod_least, .int v_mod_most, .ref (ad 39), .ref (ad 40), .ref (ad 41), .ref (ad 42), .ref (ad 43), .ref (ad 44), .int (bI v_mod_hasPlan_3), .int v_mod_told, .ref (ad 45), .int v_mod_pieces, .ref (ad 46), .ref (ad 47), .ref (ad 48), .long v_mod_planWorth, .long v_mod_planCents]))]) (ws' := [(ad 29, .inr (8, [.int v_mod_code, .int v_mod_steps, .ref (ad 30), .int v_mod_pipes, .ref (ad 31), .int v_mod_items, .ref (ad 32), .ref (ad 33), .ref (ad 34), .ref (ad 35), .ref (ad 36), .ref (ad 37), .ref (ad 38), .int v_mod_least, .int v_mod_most, .ref (ad 39), .ref (ad 40), .ref (ad 41), .ref (ad 42), .ref (ad 43), .ref (ad 44), .int (bI v_mod_hasPlan_3), .int v_mod_told, .ref (ad 45), .int v_mod_pieces, .ref (ad 46), .ref (ad 47), .ref (ad 48), .long v_mod_planWorth, .long v_mod_planCents])), (ad 30, .inl (ki 2, n_mfree, .inl v_mfree))]) (wc := [(ad 29, .inr (8, [.int v_mod_code, .int v_mod_steps, .ref (ad 30), .int v_mod_pipes, .ref (ad 31), .int v_mod_items, .ref (ad 32), .ref (ad 33), .ref (ad 34), .ref (ad 35), .ref (ad 36), .ref (ad 37), .ref (ad 38), .int v_mod_least, .int v_mod_most, .ref (ad 39), .ref (ad 40), .ref (ad 41), .ref (ad 42), .ref (ad 43), .ref (ad 44), .int (bI v_mod_hasPlan), .int v_mod_told, .ref (ad 45), .int v_mod_pieces, .ref (ad 46), .ref (ad 47), .ref (ad 48), .long v_mod_planWorth, .long v_mod_planCents]))]) (va_runV (As := []) (rest := []) ⟨hx, hb, hml, hown, hts⟩ (c_Model_change l D ad ki v_mod_code v_mod_steps v_mod_pipes v_mod_items v_mod_least v_mod_most v_mod_hasPlan v_mod_told v_mod_pieces v_mod_planWorth v_mod_planCents N _ v_mod_hasPlan_3 hc_3) (cwV 0 hts (q_goodV ⟨m_942, m_944, m_31, m_64⟩ m_945) rfl rfl rfl (by decide +kernel) ⟨Nat.le_of_ble_eq_true rfl, Nat.le_of_ble_eq_true rfl⟩) (q_preVM3 hE hK hP hD (by decide +kernel) hC_3 0 8 rfl rfl) rfl rfl hl.1 rfl (lv_room (Nat.le_of_ble_eq_true rfl)) d_Model_door_91 ⟨Nat.le_of_ble_eq_true rfl, Nat.le_of_ble_eq_true rfl⟩) hP hD hS hA hC_3 [ad 29, ad 30] rfl rfl (fun H1 h1 hk => (q_c (h1 0 _ rfl) (q_c (hk 1 _ rfl (by decide)) q_n))) rfl (fun H locs hP hD hS => ?_)
        refine lv_iload_n hx hb d_Model_door_94 rfl (lv_at hl 3 rfl) ?_
        cases hf
        first | exact W.zret (v := bI x3) hx hb hr (bI_nar _) (fun t ht hW => ⟨rfl, by rw [ht]; exact hP, hS.F ht⟩) hS.2.2 d_Model_door_95 | exact W.zret (v := bI r) hx hb hr (bI_nar _) (fun t ht hW => ⟨rfl, by rw [ht]; exact hP, hS.F ht⟩) hS.2.2 d_Model_door_95
      replace hf := q_ie hf c_1
      refine lv_aload_n hx hb d_Model_door_45 rfl (lv_at hl 0 rfl) ?_
      refine va_get (D := D) (ci := 8) (v := .int v_mod_code) (C := R_Model) (T := F_Model) (N := 30) hx hb hts hn_Model hown hK hP 0 rfl rfl 0 (by decide) hL76 (fun _ h9 => h9) rfl d_Model_door_46 ?_
      refine lv_if_ne (tgt := 86) hx hb d_Model_door_49 (by decide) (fun c_4 => ?_) (fun c_4 => ?_)
      · replace hf := q_ie hf c_4
        refine lv_iload_n hx hb d_Model_door_86 rfl (lv_at hl 3 rfl) ?_
        refine zv_eq (tgt := 94) hx hb d_Model_door_87 (by decide) (fun c_5 => ?_) (fun c_5 => ?_)
        · replace hf := q_ie hf c_5
          refine lv_iload_n hx hb d_Model_door_94 rfl (lv_at hl 3 rfl) ?_
          cases hf
          first | exact W.zret (v := bI x3) hx hb hr (bI_nar _) (fun t ht hW => ⟨rfl, by rw [ht]; exact hP, hS.F ht⟩) hS.2.2 d_Model_door_95 | exact W.zret (v := bI r) hx hb hr (bI_nar _) (fun t ht hW => ⟨rfl, by rw [ht]; exact hP, hS.F ht⟩) hS.2.2 d_Model_door_95
        replace hf := q_it hf c_5
        refine lv_aload_n hx hb d_Model_door_90 rfl (lv_at hl 0 rfl) ?_
        obtain ⟨v_mod_hasPlan_6, hc_6, hf⟩ := q_mb hf
        have hC_6 : ([0] : List Nat).map (fun i => ([(ad 29, .inr (8, [.int v_mod_code, .int v_mod_steps, .ref (ad 30), .int v_mod_pipes, .ref (ad 31), .int v_mod_items, .ref (ad 32), .ref (ad 33), .ref (ad 34), .ref (ad 35), .ref (ad 36), .ref (ad 37), .ref (ad 38), .int v_mod_least, .int v_mod_most, .ref (ad 39), .ref (ad 40), .ref (ad 41), .ref (ad 42), .ref (ad 43), .ref (ad 44), .int (bI v_mod_hasPlan), .int v_mod_told, .ref (ad 45), .int v_mod_pieces, .ref (ad 46), .ref (ad 47), .ref (ad 48), .long v_mod_planWorth, .long v_mod_planCents])), (ad 30, .inl (ki 2, n_mfree, .inl v_mfree))] : va_W)[i]?) = ([(ad 29, .inr (8, [.int v_mod_code, .int v_mod_steps, .ref (ad 30), .int v_mod_pipes, .ref (ad 31), .int v_mod_items, .ref (ad 32), .ref (ad 33), .ref (ad 34), .ref (ad 35), .ref (ad 36), .ref (ad 37), .ref (ad 38), .int v_mod_least, .int v_mod_most, .ref (ad 39), .ref (ad 40), .ref (ad 41), .ref (ad 42), .ref (ad 43), .ref (ad 44), .int (bI v_mod_hasPlan), .int v_mod_told, .ref (ad 45), .int v_mod_pieces, .ref (ad 46), .ref (ad 47), .ref (ad 48), .long v_mod_planWorth, .long v_mod_planCents]))] : va_W).map some := rfl
        refine q_mcall3 (w1 := [(ad 29, .inr (8, [.int v_mod_code, .int v_mod_steps, .ref (ad 30), .int v_mod_pipes, .ref (ad 31), .int v_mod_items, .ref (ad 32), .ref (ad 33), .ref (ad 34), .ref (ad 35), .ref (ad 36), .ref (ad 37), .ref (ad 38), .int v_mod_least, .int v_mod_most, .ref (ad 39), .ref (ad 40), .ref (ad 41), .ref (ad 42), .ref (ad 43), .ref (ad 44), .int (bI v_mod_hasPlan_6), .int v_mod_told, .ref (ad 45), .int v_mod_pieces, .ref (ad 46), .ref (ad 47), .ref (ad 48), .long v_mod_planWorth, .long v_mod_planCents]))]) (ws' := [(ad 29, .inr (8, [.int v_mod_code, .int v_mod_steps, .ref (ad 30), .int v_mod_pipes, .ref (ad 31), .int v_mod_items, .ref (ad 32), .ref (ad 33), .ref (ad 34), .ref (ad 35), .ref (ad 36), .ref (ad 37), .ref (ad 38), .int v_mod_least, .int v_mod_most, .ref (ad 39), .ref (ad 40), .ref (ad 41), .ref (ad 42), .ref (ad 43), .ref (ad 44), .int (bI v_mod_hasPlan_6), .int v_mod_told, .ref (ad 45), .int v_mod_pieces, .ref (ad 46), .ref (ad 47), .ref (ad 48), .long v_mod_planWorth, .long v_mod_planCents])), (ad 30, .inl (ki 2, n_mfree, .inl v_mfree))]) (wc := [(ad 29, .inr (8, [.int v_mod_code, .int v_mod_steps, .ref (ad 30), .int v_mod_pipes, .ref (ad 31), .int v_mod_items, .ref (ad 32), .ref (ad 33), .ref (ad 34), .ref (ad 35), .ref (ad 36), .ref (ad 37), .ref (ad 38), .int v_mod_least, .int v_mod_most, .ref (ad 39), .ref (ad 40), .ref (ad 41), .ref (ad 42), .ref (ad 43), .ref (ad 44), .int (bI v_mod_hasPlan), .int v_mod_told, .ref (ad 45), .int v_mod_pieces, .ref (ad 46), .ref (ad 47), .ref (ad 48), .long v_mod_planWorth, .long v_mod_planCents]))]) (va_runV (As := []) (rest := []) ⟨hx, hb, hml, hown, hts⟩ (c_Model_change l D ad ki v_mod_code v_mod_steps v_mod_pipes v_mod_items v_mod_least v_mod_most v_mod_hasPlan v_mod_told v_mod_pieces v_mod_planWorth v_mod_planCents N _ v_mod_hasPlan_6 hc_6) (cwV 0 hts (q_goodV ⟨m_942, m_944, m_31, m_64⟩ m_945) rfl rfl rfl (by decide +kernel) ⟨Nat.le_of_ble_eq_true rfl, Nat.le_of_ble_eq_true rfl⟩) (q_preVM3 hE hK hP hD (by decide +kernel) hC_6 0 8 rfl rfl) rfl rfl hl.1 rfl (lv_room (Nat.le_of_ble_eq_true rfl)) d_Model_door_91 ⟨Nat.le_of_ble_eq_true rfl, Nat.le_of_ble_eq_true rfl⟩) hP hD hS hA hC_6 [ad 29, ad 30] rfl rfl (fun H1 h1 hk => (q_c (h1 0 _ rfl) (q_c (hk 1 _ rfl (by decide)) q_n))) rfl (fun H locs hP hD hS => ?_)
        refine lv_iload_n hx hb d_Model_door_94 rfl (lv_at hl 3 rfl) ?_
        cases hf
        first | exact W.zret (v := bI x3) hx hb hr (bI_nar _) (fun t ht hW => ⟨rfl, by rw [ht]; exact hP, hS.F ht⟩) hS.2.2 d_Model_door_95 | exact W.zret (v := bI r) hx hb hr (bI_nar _) (fun t ht hW => ⟨rfl, by rw [ht]; exact hP, hS.F ht⟩) hS.2.2 d_Model_door_95
      replace hf := q_it hf c_4
      refine lv_iload_n hx hb d_Model_door_52 rfl (lv_at hl 3 rfl) ?_
      refine zv_ne (tgt := 66) hx hb d_Model_door_53 (by decide) (fun c_7 => ?_) (fun c_7 => ?_)
      · replace hf := q_it hf c_7
        refine lv_iconst (v := 1) hx hb d_Model_door_66 (by decide) ?_
        refine lv_goto (tgt := 71) hx hb d_Model_door_67 (by decide) ?_
        refine lv_istore_n (lv' := [(3, .int (bI true)), (0, .ref (ad 29)), (1, .int x1), (2, .int x2), (4, .int x4)]) hx hb d_Model_door_71 rfl hl (by decide) rfl (fun ls hl => ?_)
        refine lv_aload_n hx hb d_Model_door_72 rfl (lv_at hl 1 rfl) ?_
        refine va_get (D := D) (ci := 8) (v := .ref (ad 30)) (C := R_Model) (T := F_Model) (N := 30) hx hb hts hn_Model hown hK hP 0 rfl rfl 2 (by decide) hL7 (fun _ h9 => h9) rfl d_Model_door_73 ?_
        refine lv_iload hx hb d_Model_door_76 (lv_at hl 4 rfl) ?_
        refine lv_iconst (v := 1) hx hb d_Model_door_78 (by decide) ?_
        obtain ⟨hi_8, hf⟩ := q_ck hf
        refine va_zast hx hb hK hP hD hS 1 2 rfl rfl hi_8 d_Model_door_79 (fun H locs hP hD hS => ?_)
        replace hP : va_P D vwCl [(ad 29, .inr (8, [.int v_mod_code, .int v_mod_steps, .ref (ad 30), .int v_mod_pipes, .ref (ad 31), .int v_mod_items, .ref (ad 32), .ref (ad 33), .ref (ad 34), .ref (ad 35), .ref (ad 36), .ref (ad 37), .ref (ad 38), .int v_mod_least, .int v_mod_most, .ref (ad 39), .ref (ad 40), .ref (ad 41), .ref (ad 42), .ref (ad 43), .ref (ad 44), .int (bI v_mod_hasPlan), .int v_mod_told, .ref (ad 45), .int v_mod_pieces, .ref (ad 46), .ref (ad 47), .ref (ad 48), .long v_mod_planWorth, .long v_mod_planCents])), (ad 30, .inl (ki 2, n_mfree, .inl (upd v_mfree (Int32.toNatClampNeg x4) (vp_nar .boolean 1))))] H := hP
        replace hD : va_D A [(ad 29, .inr (8, [.int v_mod_code, .int v_mod_steps, .ref (ad 30), .int v_mod_pipes, .ref (ad 31), .int v_mod_items, .ref (ad 32), .ref (ad 33), .ref (ad 34), .ref (ad 35), .ref (ad 36), .ref (ad 37), .ref (ad 38), .int v_mod_least, .int v_mod_most, .ref (ad 39), .ref (ad 40), .ref (ad 41), .ref (ad 42), .ref (ad 43), .ref (ad 44), .int (bI v_mod_hasPlan), .int v_mod_told, .ref (ad 45), .int v_mod_pieces, .ref (ad 46), .ref (ad 47), .ref (ad 48), .long v_mod_planWorth, .long v_mod_planCents])), (ad 30, .inl (ki 2, n_mfree, .inl (upd v_mfree (Int32.toNatClampNeg x4) (vp_nar .boolean 1))))] := hD
        refine lv_iinc (v := (x4 + 1)) (lv' := [(4, .int (x4 + 1)), (3, .int (bI true)), (0, .ref (ad 29)), (1, .int x1), (2, .int x2)]) hx hb d_Model_door_80 hl (k := 4) rfl rfl (by decide) rfl (fun ls hl => ?_)
        refine lv_goto (tgt := 39) hx hb d_Model_door_83 (by decide) ?_
        exact (ih) x1 x2 true (x4 + 1) v_mod_code v_mod_hasPlan (upd v_mfree (Int32.toNatClampNeg x4) (vp_nar .boolean 1)) hf _ _ hP hD hS ls (lv_sub hl [2, 3, 4, 1, 0] rfl)
      replace hf := q_ie hf c_7
      refine lv_aload_n hx hb d_Model_door_56 rfl (lv_at hl 0 rfl) ?_
      refine va_get (D := D) (ci := 8) (v := .ref (ad 30)) (C := R_Model) (T := F_Model) (N := 30) hx hb hts hn_Model hown hK hP 0 rfl rfl 2 (by decide) hL7 (fun _ h9 => h9) rfl d_Model_door_57 ?_
      refine lv_iload hx hb d_Model_door_60 (lv_at hl 4 rfl) ?_
      obtain ⟨hi_9, hf⟩ := q_ck hf
      refine va_zald hx hb hK hP 1 2 rfl rfl hi_9 d_Model_door_62 ?_
      refine lv_if_ne (tgt := 70) hx hb d_Model_door_63 (by decide) (fun c_10 => ?_) (fun c_10 => ?_)
      · replace hf := q_ie hf c_10
        refine lv_iconst (v := 0) hx hb d_Model_door_70 (by decide) ?_
        refine lv_istore_n (lv' := [(3, .int (bI false)), (0, .ref (ad 29)), (1, .int x1), (2, .int x2), (4, .int x4)]) hx hb d_Model_door_71 rfl hl (by decide) rfl (fun ls hl => ?_)
        refine lv_aload_n hx hb d_Model_door_72 rfl (lv_at hl 1 rfl) ?_
        refine va_get (D := D) (ci := 8) (v := .ref (ad 30)) (C := R_Model) (T := F_Model) (N := 30) hx hb hts hn_Model hown hK hP 0 rfl rfl 2 (by decide) hL7 (fun _ h9 => h9) rfl d_Model_door_73 ?_
        refine lv_iload hx hb d_Model_door_76 (lv_at hl 4 rfl) ?_
        refine lv_iconst (v := 1) hx hb d_Model_door_78 (by decide) ?_
        obtain ⟨hi_11, hf⟩ := q_ck hf
        refine va_zast hx hb hK hP hD hS 1 2 rfl rfl hi_11 d_Model_door_79 (fun H locs hP hD hS => ?_)
        replace hP : va_P D vwCl [(ad 29, .inr (8, [.int v_mod_code, .int v_mod_steps, .ref (ad 30), .int v_mod_pipes, .ref (ad 31), .int v_mod_items, .ref (ad 32), .ref (ad 33), .ref (ad 34), .ref (ad 35), .ref (ad 36), .ref (ad 37), .ref (ad 38), .int v_mod_least, .int v_mod_most, .ref (ad 39), .ref (ad 40), .ref (ad 41), .ref (ad 42), .ref (ad 43), .ref (ad 44), .int (bI v_mod_hasPlan), .int v_mod_told, .ref (ad 45), .int v_mod_pieces, .ref (ad 46), .ref (ad 47), .ref (ad 48), .long v_mod_planWorth, .long v_mod_planCents])), (ad 30, .inl (ki 2, n_mfree, .inl (upd v_mfree (Int32.toNatClampNeg x4) (vp_nar .boolean 1))))] H := hP
        replace hD : va_D A [(ad 29, .inr (8, [.int v_mod_code, .int v_mod_steps, .ref (ad 30), .int v_mod_pipes, .ref (ad 31), .int v_mod_items, .ref (ad 32), .ref (ad 33), .ref (ad 34), .ref (ad 35), .ref (ad 36), .ref (ad 37), .ref (ad 38), .int v_mod_least, .int v_mod_most, .ref (ad 39), .ref (ad 40), .ref (ad 41), .ref (ad 42), .ref (ad 43), .ref (ad 44), .int (bI v_mod_hasPlan), .int v_mod_told, .ref (ad 45), .int v_mod_pieces, .ref (ad 46), .ref (ad 47), .ref (ad 48), .long v_mod_planWorth, .long v_mod_planCents])), (ad 30, .inl (ki 2, n_mfree, .inl (upd v_mfree (Int32.toNatClampNeg x4) (vp_nar .boolean 1))))] := hD
        refine lv_iinc (v := (x4 + 1)) (lv' := [(4, .int (x4 + 1)), (3, .int (bI false)), (0, .ref (ad 29)), (1, .int x1), (2, .int x2)]) hx hb d_Model_door_80 hl (k := 4) rfl rfl (by decide) rfl (fun ls hl => ?_)
        refine lv_goto (tgt := 39) hx hb d_Model_door_83 (by decide) ?_
        exact (ih) x1 x2 false (x4 + 1) v_mod_code v_mod_hasPlan (upd v_mfree (Int32.toNatClampNeg x4) (vp_nar .boolean 1)) hf _ _ hP hD hS ls (lv_sub hl [2, 3, 4, 1, 0] rfl)
      replace hf := q_it hf c_10
      refine lv_iconst (v := 1) hx hb d_Model_door_66 (by decide) ?_
      refine lv_goto (tgt := 71) hx hb d_Model_door_67 (by decide) ?_
      refine lv_istore_n (lv' := [(3, .int (bI true)), (0, .ref (ad 29)), (1, .int x1), (2, .int x2), (4, .int x4)]) hx hb d_Model_door_71 rfl hl (by decide) rfl (fun ls hl => ?_)
      refine lv_aload_n hx hb d_Model_door_72 rfl (lv_at hl 1 rfl) ?_
      refine va_get (D := D) (ci := 8) (v := .ref (ad 30)) (C := R_Model) (T := F_Model) (N := 30) hx hb hts hn_Model hown hK hP 0 rfl rfl 2 (by decide) hL7 (fun _ h9 => h9) rfl d_Model_door_73 ?_
      refine lv_iload hx hb d_Model_door_76 (lv_at hl 4 rfl) ?_
      refine lv_iconst (v := 1) hx hb d_Model_door_78 (by decide) ?_
      obtain ⟨hi_12, hf⟩ := q_ck hf
      refine va_zast hx hb hK hP hD hS 1 2 rfl rfl hi_12 d_Model_door_79 (fun H locs hP hD hS => ?_)
      replace hP : va_P D vwCl [(ad 29, .inr (8, [.int v_mod_code, .int v_mod_steps, .ref (ad 30), .int v_mod_pipes, .ref (ad 31), .int v_mod_items, .ref (ad 32), .ref (ad 33), .ref (ad 34), .ref (ad 35), .ref (ad 36), .ref (ad 37), .ref (ad 38), .int v_mod_least, .int v_mod_most, .ref (ad 39), .ref (ad 40), .ref (ad 41), .ref (ad 42), .ref (ad 43), .ref (ad 44), .int (bI v_mod_hasPlan), .int v_mod_told, .ref (ad 45), .int v_mod_pieces, .ref (ad 46), .ref (ad 47), .ref (ad 48), .long v_mod_planWorth, .long v_mod_planCents])), (ad 30, .inl (ki 2, n_mfree, .inl (upd v_mfree (Int32.toNatClampNeg x4) (vp_nar .boolean 1))))] H := hP
      replace hD : va_D A [(ad 29, .inr (8, [.int v_mod_code, .int v_mod_steps, .ref (ad 30), .int v_mod_pipes, .ref (ad 31), .int v_mod_items, .ref (ad 32), .ref (ad 33), .ref (ad 34), .ref (ad 35), .ref (ad 36), .ref (ad 37), .ref (ad 38), .int v_mod_least, .int v_mod_most, .ref (ad 39), .ref (ad 40), .ref (ad 41), .ref (ad 42), .ref (ad 43), .ref (ad 44), .int (bI v_mod_hasPlan), .int v_mod_told, .ref (ad 45), .int v_mod_pieces, .ref (ad 46), .ref (ad 47), .ref (ad 48), .long v_mod_planWorth, .long v_mod_planCents])), (ad 30, .inl (ki 2, n_mfree, .inl (upd v_mfree (Int32.toNatClampNeg x4) (vp_nar .boolean 1))))] := hD
      refine lv_iinc (v := (x4 + 1)) (lv' := [(4, .int (x4 + 1)), (3, .int (bI true)), (0, .ref (ad 29)), (1, .int x1), (2, .int x2)]) hx hb d_Model_door_80 hl (k := 4) rfl rfl (by decide) rfl (fun ls hl => ?_)
      refine lv_goto (tgt := 39) hx hb d_Model_door_83 (by decide) ?_
      exact (ih) x1 x2 true (x4 + 1) v_mod_code v_mod_hasPlan (upd v_mfree (Int32.toNatClampNeg x4) (vp_nar .boolean 1)) hf _ _ hP hD hS ls (lv_sub hl [2, 3, 4, 1, 0] rfl)
  unfold f_Model_door at hf
  refine lv_aload_n hx hb d_Model_door_0 rfl (lv_at hl 0 rfl) ?_
  refine lv_iload_n hx hb d_Model_door_1 rfl (lv_at hl 1 rfl) ?_
  refine lv_if_lt (tgt := 26) hx hb d_Model_door_2 (by decide) (fun c_13 => ?_) (fun c_13 => ?_)
  · replace hf := q_it hf c_13
    refine lv_iconst (v := 1) hx hb d_Model_door_26 (by decide) ?_
    refine lv_goto (tgt := 31) hx hb d_Model_door_27 (by decide) ?_
    refine va_put (D := D) (ci := 8) (v := .int 1) (ty := .int) (C := R_Model) (T := F_Model) (N := 30) hx hb hts hn_Model t_Model t_Model_ok n_Model hown hK hP hD hS 0 rfl rfl 0 (by decide) hL76 (fun _ h9 => h9) rfl (by decide +kernel) rfl rfl (Nat.le_of_ble_eq_true rfl) d_Model_door_31 (fun H locs hP hD hS => ?_)
    replace hP : va_P D vwCl [(ad 29, .inr (8, [.int 1, .int v_mod_steps, .ref (ad 30), .int v_mod_pipes, .ref (ad 31), .int v_mod_items, .ref (ad 32), .ref (ad 33), .ref (ad 34), .ref (ad 35), .ref (ad 36), .ref (ad 37), .ref (ad 38), .int v_mod_least, .int v_mod_most, .ref (ad 39), .ref (ad 40), .ref (ad 41), .ref (ad 42), .ref (ad 43), .ref (ad 44), .int (bI v_mod_hasPlan), .int v_mod_told, .ref (ad 45), .int v_mod_pieces, .ref (ad 46), .ref (ad 47), .ref (ad 48), .long v_mod_planWorth, .long v_mod_planCents])), (ad 30, .inl (ki 2, n_mfree, .inl v_mfree))] H := hP
    replace hD : va_D A [(ad 29, .inr (8, [.int 1, .int v_mod_steps, .ref (ad 30), .int v_mod_pipes, .ref (ad 31), .int v_mod_items, .ref (ad 32), .ref (ad 33), .ref (ad 34), .ref (ad 35), .ref (ad 36), .ref (ad 37), .ref (ad 38), .int v_mod_least, .int v_mod_most, .ref (ad 39), .ref (ad 40), .ref (ad 41), .ref (ad 42), .ref (ad 43), .ref (ad 44), .int (bI v_mod_hasPlan), .int v_mod_told, .ref (ad 45), .int v_mod_pieces, .ref (ad 46), .ref (ad 47), .ref (ad 48), .long v_mod_planWorth, .long v_mod_planCents])), (ad 30, .inl (ki 2, n_mfree, .inl v_mfree))] := hD
    refine lv_iconst (v := 0) hx hb d_Model_door_34 (by decide) ?_
    refine lv_istore_n (lv' := [(3, .int (bI false)), (0, .ref (ad 29)), (1, .int p1), (2, .int p2)]) hx hb d_Model_door_35 rfl hl (by decide) rfl (fun ls hl => ?_)
    refine lv_iload_n hx hb d_Model_door_36 rfl (lv_at hl 2 rfl) ?_
    refine lv_istore (lv' := [(4, .int p1), (3, .int (bI false)), (0, .ref (ad 29)), (1, .int p1), (2, .int p2)]) hx hb d_Model_door_37 hl (by decide) rfl (fun ls hl => ?_)
    exact (key N) p1 p2 false p1 1 v_mod_hasPlan v_mfree hf _ _ hP hD hS ls (lv_sub hl [2, 3, 4, 1, 0] rfl)
  replace hf := q_ie hf c_13
  refine lv_iload_n hx hb d_Model_door_5 rfl (lv_at hl 1 rfl) ?_
  refine lv_aload_n hx hb d_Model_door_6 rfl (lv_at hl 0 rfl) ?_
  refine va_get (D := D) (ci := 8) (v := .int v_mod_steps) (C := R_Model) (T := F_Model) (N := 30) hx hb hts hn_Model hown hK hP 0 rfl rfl 1 (by decide) hL69 (fun _ h9 => h9) rfl d_Model_door_7 ?_
  refine lv_icmp_ge (tgt := 26) hx hb d_Model_door_10 (by decide) (fun c_14 => ?_) (fun c_14 => ?_)
  · replace hf := q_it hf c_14
    refine lv_iconst (v := 1) hx hb d_Model_door_26 (by decide) ?_
    refine lv_goto (tgt := 31) hx hb d_Model_door_27 (by decide) ?_
    refine va_put (D := D) (ci := 8) (v := .int 1) (ty := .int) (C := R_Model) (T := F_Model) (N := 30) hx hb hts hn_Model t_Model t_Model_ok n_Model hown hK hP hD hS 0 rfl rfl 0 (by decide) hL76 (fun _ h9 => h9) rfl (by decide +kernel) rfl rfl (Nat.le_of_ble_eq_true rfl) d_Model_door_31 (fun H locs hP hD hS => ?_)
    replace hP : va_P D vwCl [(ad 29, .inr (8, [.int 1, .int v_mod_steps, .ref (ad 30), .int v_mod_pipes, .ref (ad 31), .int v_mod_items, .ref (ad 32), .ref (ad 33), .ref (ad 34), .ref (ad 35), .ref (ad 36), .ref (ad 37), .ref (ad 38), .int v_mod_least, .int v_mod_most, .ref (ad 39), .ref (ad 40), .ref (ad 41), .ref (ad 42), .ref (ad 43), .ref (ad 44), .int (bI v_mod_hasPlan), .int v_mod_told, .ref (ad 45), .int v_mod_pieces, .ref (ad 46), .ref (ad 47), .ref (ad 48), .long v_mod_planWorth, .long v_mod_planCents])), (ad 30, .inl (ki 2, n_mfree, .inl v_mfree))] H := hP
    replace hD : va_D A [(ad 29, .inr (8, [.int 1, .int v_mod_steps, .ref (ad 30), .int v_mod_pipes, .ref (ad 31), .int v_mod_items, .ref (ad 32), .ref (ad 33), .ref (ad 34), .ref (ad 35), .ref (ad 36), .ref (ad 37), .ref (ad 38), .int v_mod_least, .int v_mod_most, .ref (ad 39), .ref (ad 40), .ref (ad 41), .ref (ad 42), .ref (ad 43), .ref (ad 44), .int (bI v_mod_hasPlan), .int v_mod_told, .ref (ad 45), .int v_mod_pieces, .ref (ad 46), .ref (ad 47), .ref (ad 48), .long v_mod_planWorth, .long v_mod_planCents])), (ad 30, .inl (ki 2, n_mfree, .inl v_mfree))] := hD
    refine lv_iconst (v := 0) hx hb d_Model_door_34 (by decide) ?_
    refine lv_istore_n (lv' := [(3, .int (bI false)), (0, .ref (ad 29)), (1, .int p1), (2, .int p2)]) hx hb d_Model_door_35 rfl hl (by decide) rfl (fun ls hl => ?_)
    refine lv_iload_n hx hb d_Model_door_36 rfl (lv_at hl 2 rfl) ?_
    refine lv_istore (lv' := [(4, .int p1), (3, .int (bI false)), (0, .ref (ad 29)), (1, .int p1), (2, .int p2)]) hx hb d_Model_door_37 hl (by decide) rfl (fun ls hl => ?_)
    exact (key N) p1 p2 false p1 1 v_mod_hasPlan v_mfree hf _ _ hP hD hS ls (lv_sub hl [2, 3, 4, 1, 0] rfl)
  replace hf := q_ie hf c_14
  refine lv_iload_n hx hb d_Model_door_13 rfl (lv_at hl 2 rfl) ?_
  refine lv_iload_n hx hb d_Model_door_14 rfl (lv_at hl 1 rfl) ?_
  refine lv_icmp_le (tgt := 26) hx hb d_Model_door_15 (by decide) (fun c_15 => ?_) (fun c_15 => ?_)
  · replace hf := q_it hf c_15
    refine lv_iconst (v := 1) hx hb d_Model_door_26 (by decide) ?_
    refine lv_goto (tgt := 31) hx hb d_Model_door_27 (by decide) ?_
    refine va_put (D := D) (ci := 8) (v := .int 1) (ty := .int) (C := R_Model) (T := F_Model) (N := 30) hx hb hts hn_Model t_Model t_Model_ok n_Model hown hK hP hD hS 0 rfl rfl 0 (by decide) hL76 (fun _ h9 => h9) rfl (by decide +kernel) rfl rfl (Nat.le_of_ble_eq_true rfl) d_Model_door_31 (fun H locs hP hD hS => ?_)
    replace hP : va_P D vwCl [(ad 29, .inr (8, [.int 1, .int v_mod_steps, .ref (ad 30), .int v_mod_pipes, .ref (ad 31), .int v_mod_items, .ref (ad 32), .ref (ad 33), .ref (ad 34), .ref (ad 35), .ref (ad 36), .ref (ad 37), .ref (ad 38), .int v_mod_least, .int v_mod_most, .ref (ad 39), .ref (ad 40), .ref (ad 41), .ref (ad 42), .ref (ad 43), .ref (ad 44), .int (bI v_mod_hasPlan), .int v_mod_told, .ref (ad 45), .int v_mod_pieces, .ref (ad 46), .ref (ad 47), .ref (ad 48), .long v_mod_planWorth, .long v_mod_planCents])), (ad 30, .inl (ki 2, n_mfree, .inl v_mfree))] H := hP
    replace hD : va_D A [(ad 29, .inr (8, [.int 1, .int v_mod_steps, .ref (ad 30), .int v_mod_pipes, .ref (ad 31), .int v_mod_items, .ref (ad 32), .ref (ad 33), .ref (ad 34), .ref (ad 35), .ref (ad 36), .ref (ad 37), .ref (ad 38), .int v_mod_least, .int v_mod_most, .ref (ad 39), .ref (ad 40), .ref (ad 41), .ref (ad 42), .ref (ad 43), .ref (ad 44), .int (bI v_mod_hasPlan), .int v_mod_told, .ref (ad 45), .int v_mod_pieces, .ref (ad 46), .ref (ad 47), .ref (ad 48), .long v_mod_planWorth, .long v_mod_planCents])), (ad 30, .inl (ki 2, n_mfree, .inl v_mfree))] := hD
    refine lv_iconst (v := 0) hx hb d_Model_door_34 (by decide) ?_
    refine lv_istore_n (lv' := [(3, .int (bI false)), (0, .ref (ad 29)), (1, .int p1), (2, .int p2)]) hx hb d_Model_door_35 rfl hl (by decide) rfl (fun ls hl => ?_)
    refine lv_iload_n hx hb d_Model_door_36 rfl (lv_at hl 2 rfl) ?_
    refine lv_istore (lv' := [(4, .int p1), (3, .int (bI false)), (0, .ref (ad 29)), (1, .int p1), (2, .int p2)]) hx hb d_Model_door_37 hl (by decide) rfl (fun ls hl => ?_)
    exact (key N) p1 p2 false p1 1 v_mod_hasPlan v_mfree hf _ _ hP hD hS ls (lv_sub hl [2, 3, 4, 1, 0] rfl)
  replace hf := q_ie hf c_15
  refine lv_iload_n hx hb d_Model_door_18 rfl (lv_at hl 2 rfl) ?_
  refine lv_aload_n hx hb d_Model_door_19 rfl (lv_at hl 0 rfl) ?_
  refine va_get (D := D) (ci := 8) (v := .int v_mod_steps) (C := R_Model) (T := F_Model) (N := 30) hx hb hts hn_Model hown hK hP 0 rfl rfl 1 (by decide) hL69 (fun _ h9 => h9) rfl d_Model_door_20 ?_
  refine lv_icmp_le (tgt := 30) hx hb d_Model_door_23 (by decide) (fun c_16 => ?_) (fun c_16 => ?_)
  · replace hf := q_it hf c_16
    refine lv_iconst (v := 0) hx hb d_Model_door_30 (by decide) ?_
    refine va_put (D := D) (ci := 8) (v := .int 0) (ty := .int) (C := R_Model) (T := F_Model) (N := 30) hx hb hts hn_Model t_Model t_Model_ok n_Model hown hK hP hD hS 0 rfl rfl 0 (by decide) hL76 (fun _ h9 => h9) rfl (by decide +kernel) rfl rfl (Nat.le_of_ble_eq_true rfl) d_Model_door_31 (fun H locs hP hD hS => ?_)
    replace hP : va_P D vwCl [(ad 29, .inr (8, [.int 0, .int v_mod_steps, .ref (ad 30), .int v_mod_pipes, .ref (ad 31), .int v_mod_items, .ref (ad 32), .ref (ad 33), .ref (ad 34), .ref (ad 35), .ref (ad 36), .ref (ad 37), .ref (ad 38), .int v_mod_least, .int v_mod_most, .ref (ad 39), .ref (ad 40), .ref (ad 41), .ref (ad 42), .ref (ad 43), .ref (ad 44), .int (bI v_mod_hasPlan), .int v_mod_told, .ref (ad 45), .int v_mod_pieces, .ref (ad 46), .ref (ad 47), .ref (ad 48), .long v_mod_planWorth, .long v_mod_planCents])), (ad 30, .inl (ki 2, n_mfree, .inl v_mfree))] H := hP
    replace hD : va_D A [(ad 29, .inr (8, [.int 0, .int v_mod_steps, .ref (ad 30), .int v_mod_pipes, .ref (ad 31), .int v_mod_items, .ref (ad 32), .ref (ad 33), .ref (ad 34), .ref (ad 35), .ref (ad 36), .ref (ad 37), .ref (ad 38), .int v_mod_least, .int v_mod_most, .ref (ad 39), .ref (ad 40), .ref (ad 41), .ref (ad 42), .ref (ad 43), .ref (ad 44), .int (bI v_mod_hasPlan), .int v_mod_told, .ref (ad 45), .int v_mod_pieces, .ref (ad 46), .ref (ad 47), .ref (ad 48), .long v_mod_planWorth, .long v_mod_planCents])), (ad 30, .inl (ki 2, n_mfree, .inl v_mfree))] := hD
    refine lv_iconst (v := 0) hx hb d_Model_door_34 (by decide) ?_
    refine lv_istore_n (lv' := [(3, .int (bI false)), (0, .ref (ad 29)), (1, .int p1), (2, .int p2)]) hx hb d_Model_door_35 rfl hl (by decide) rfl (fun ls hl => ?_)
    refine lv_iload_n hx hb d_Model_door_36 rfl (lv_at hl 2 rfl) ?_
    refine lv_istore (lv' := [(4, .int p1), (3, .int (bI false)), (0, .ref (ad 29)), (1, .int p1), (2, .int p2)]) hx hb d_Model_door_37 hl (by decide) rfl (fun ls hl => ?_)
    exact (key N) p1 p2 false p1 0 v_mod_hasPlan v_mfree hf _ _ hP hD hS ls (lv_sub hl [2, 3, 4, 1, 0] rfl)
  replace hf := q_ie hf c_16
  refine lv_iconst (v := 1) hx hb d_Model_door_26 (by decide) ?_
  refine lv_goto (tgt := 31) hx hb d_Model_door_27 (by decide) ?_
  refine va_put (D := D) (ci := 8) (v := .int 1) (ty := .int) (C := R_Model) (T := F_Model) (N := 30) hx hb hts hn_Model t_Model t_Model_ok n_Model hown hK hP hD hS 0 rfl rfl 0 (by decide) hL76 (fun _ h9 => h9) rfl (by decide +kernel) rfl rfl (Nat.le_of_ble_eq_true rfl) d_Model_door_31 (fun H locs hP hD hS => ?_)
  replace hP : va_P D vwCl [(ad 29, .inr (8, [.int 1, .int v_mod_steps, .ref (ad 30), .int v_mod_pipes, .ref (ad 31), .int v_mod_items, .ref (ad 32), .ref (ad 33), .ref (ad 34), .ref (ad 35), .ref (ad 36), .ref (ad 37), .ref (ad 38), .int v_mod_least, .int v_mod_most, .ref (ad 39), .ref (ad 40), .ref (ad 41), .ref (ad 42), .ref (ad 43), .ref (ad 44), .int (bI v_mod_hasPlan), .int v_mod_told, .ref (ad 45), .int v_mod_pieces, .ref (ad 46), .ref (ad 47), .ref (ad 48), .long v_mod_planWorth, .long v_mod_planCents])), (ad 30, .inl (ki 2, n_mfree, .inl v_mfree))] H := hP
  replace hD : va_D A [(ad 29, .inr (8, [.int 1, .int v_mod_steps, .ref (ad 30), .int v_mod_pipes, .ref (ad 31), .int v_mod_items, .ref (ad 32), .ref (ad 33), .ref (ad 34), .ref (ad 35), .ref (ad 36), .ref (ad 37), .ref (ad 38), .int v_mod_least, .int v_mod_most, .ref (ad 39), .ref (ad 40), .ref (ad 41), .ref (ad 42), .ref (ad 43), .ref (ad 44), .int (bI v_mod_hasPlan), .int v_mod_told, .ref (ad 45), .int v_mod_pieces, .ref (ad 46), .ref (ad 47), .ref (ad 48), .long v_mod_planWorth, .long v_mod_planCents])), (ad 30, .inl (ki 2, n_mfree, .inl v_mfree))] := hD
  refine lv_iconst (v := 0) hx hb d_Model_door_34 (by decide) ?_
  refine lv_istore_n (lv' := [(3, .int (bI false)), (0, .ref (ad 29)), (1, .int p1), (2, .int p2)]) hx hb d_Model_door_35 rfl hl (by decide) rfl (fun ls hl => ?_)
  refine lv_iload_n hx hb d_Model_door_36 rfl (lv_at hl 2 rfl) ?_
  refine lv_istore (lv' := [(4, .int p1), (3, .int (bI false)), (0, .ref (ad 29)), (1, .int p1), (2, .int p2)]) hx hb d_Model_door_37 hl (by decide) rfl (fun ls hl => ?_)
  exact (key N) p1 p2 false p1 1 v_mod_hasPlan v_mfree hf _ _ hP hD hS ls (lv_sub hl [2, 3, 4, 1, 0] rfl)
def f_Model_pipe_cut (N : Nat) (n_mpip : Nat) (v_mod_steps : Int32) (v_mod_items : Int32) (v_mod_least : Int32) (v_mod_most : Int32) (v_mod_told : Int32) (v_mod_pieces : Int32) (v_mod_planWorth : Int64) (v_mod_planCents : Int64) : Nat → Nat → Int32 → Bool → Int32 → (Int32) → (Int32) → (Bool) → (Nat → Int32) → Option (Bool × Int32 × Int32 × Bool × (Nat → Int32))
  | 0, _, _, _, _, _, _, _, _ => none
  | n + 1, t, x1, x2, x3, v_mod_code, v_mod_pipes, v_mod_hasPlan, v_mpip => (if v_mod_pipes ≤ x3 then (if x2 = true then (some (false, v_mod_code, v_mod_pipes, v_mod_hasPlan, v_mpip)) else (if v_mod_pipes < 0 ∨ n_mpip ≤ Int32.toNatClampNeg v_mod_pipes then none else (Option.bind (f_Model_change N v_mod_code v_mod_steps (v_mod_pipes + 1) v_mod_items v_mod_least v_mod_most v_mod_hasPlan v_mod_told v_mod_pieces v_mod_planWorth v_mod_planCents) (fun v_mod_hasPlan_4 => (some (true, v_mod_code, (v_mod_pipes + 1), v_mod_hasPlan_4, (upd v_mpip (Int32.toNatClampNeg v_mod_pipes) x1))))))) else (if x2 = true then (f_Model_pipe_cut N n_mpip v_mod_steps v_mod_items v_mod_least v_mod_most v_mod_told v_mod_pieces v_mod_planWorth v_mod_planCents n 0 x1 true (x3 + 1) v_mod_code v_mod_pipes v_mod_hasPlan v_mpip) else (if x3 < 0 ∨ n_mpip ≤ Int32.toNatClampNeg x3 then none else (if (v_mpip (Int32.toNatClampNeg x3)) = x1 then (f_Model_pipe_cut N n_mpip v_mod_steps v_mod_items v_mod_least v_mod_most v_mod_told v_mod_pieces v_mod_planWorth v_mod_planCents n 0 x1 true (x3 + 1) v_mod_code v_mod_pipes v_mod_hasPlan v_mpip) else (f_Model_pipe_cut N n_mpip v_mod_steps v_mod_items v_mod_least v_mod_most v_mod_told v_mod_pieces v_mod_planWorth v_mod_planCents n 0 x1 false (x3 + 1) v_mod_code v_mod_pipes v_mod_hasPlan v_mpip)))))
theorem f_Model_pipe_cut_0 (N : Nat) (n_mpip : Nat) (v_mod_steps : Int32) (v_mod_items : Int32) (v_mod_least : Int32) (v_mod_most : Int32) (v_mod_told : Int32) (v_mod_pieces : Int32) (v_mod_planWorth : Int64) (v_mod_planCents : Int64) (n : Nat) (x1 : Int32) (x2 : Bool) (x3 : Int32) (v_mod_code : Int32) (v_mod_pipes : Int32) (v_mod_hasPlan : Bool) (v_mpip : Nat → Int32) : f_Model_pipe_cut N n_mpip v_mod_steps v_mod_items v_mod_least v_mod_most v_mod_told v_mod_pieces v_mod_planWorth v_mod_planCents (n + 1) 0 x1 x2 x3 v_mod_code v_mod_pipes v_mod_hasPlan v_mpip = (if v_mod_pipes ≤ x3 then (if x2 = true then (some (false, v_mod_code, v_mod_pipes, v_mod_hasPlan, v_mpip)) else (if v_mod_pipes < 0 ∨ n_mpip ≤ Int32.toNatClampNeg v_mod_pipes then none else (Option.bind (f_Model_change N v_mod_code v_mod_steps (v_mod_pipes + 1) v_mod_items v_mod_least v_mod_most v_mod_hasPlan v_mod_told v_mod_pieces v_mod_planWorth v_mod_planCents) (fun v_mod_hasPlan_4 => (some (true, v_mod_code, (v_mod_pipes + 1), v_mod_hasPlan_4, (upd v_mpip (Int32.toNatClampNeg v_mod_pipes) x1))))))) else (if x2 = true then (f_Model_pipe_cut N n_mpip v_mod_steps v_mod_items v_mod_least v_mod_most v_mod_told v_mod_pieces v_mod_planWorth v_mod_planCents n 0 x1 true (x3 + 1) v_mod_code v_mod_pipes v_mod_hasPlan v_mpip) else (if x3 < 0 ∨ n_mpip ≤ Int32.toNatClampNeg x3 then none else (if (v_mpip (Int32.toNatClampNeg x3)) = x1 then (f_Model_pipe_cut N n_mpip v_mod_steps v_mod_items v_mod_least v_mod_most v_mod_told v_mod_pieces v_mod_planWorth v_mod_planCents n 0 x1 true (x3 + 1) v_mod_code v_mod_pipes v_mod_hasPlan v_mpip) else (f_Model_pipe_cut N n_mpip v_mod_steps v_mod_items v_mod_least v_mod_most v_mod_told v_mod_pieces v_mod_planWorth v_mod_planCents n 0 x1 false (x3 + 1) v_mod_code v_mod_pipes v_mod_hasPlan v_mpip))))) := rfl
def f_Model_pipe (N : Nat) (n_mpip : Nat) (v_mod_code : Int32) (v_mod_steps : Int32) (v_mod_pipes : Int32) (v_mod_items : Int32) (v_mod_least : Int32) (v_mod_most : Int32) (v_mod_hasPlan : Bool) (v_mod_told : Int32) (v_mod_pieces : Int32) (v_mod_planWorth : Int64) (v_mod_planCents : Int64) (v_mpip : Nat → Int32) (p1 : Int32) : Option (Bool × Int32 × Int32 × Bool × (Nat → Int32)) := (if p1 < 0 then (if 0 < (1 : Int32) then (f_Model_pipe_cut N n_mpip v_mod_steps v_mod_items v_mod_least v_mod_most v_mod_told v_mod_pieces v_mod_planWorth v_mod_planCents N 0 p1 true 0 1 v_mod_pipes v_mod_hasPlan v_mpip) else (if v_mod_pipes = (8 : Int32) then (f_Model_pipe_cut N n_mpip v_mod_steps v_mod_items v_mod_least v_mod_most v_mod_told v_mod_pieces v_mod_planWorth v_mod_planCents N 0 p1 true 0 1 v_mod_pipes v_mod_hasPlan v_mpip) else (f_Model_pipe_cut N n_mpip v_mod_steps v_mod_items v_mod_least v_mod_most v_mod_told v_mod_pieces v_mod_planWorth v_mod_planCents N 0 p1 false 0 1 v_mod_pipes v_mod_hasPlan v_mpip))) else (if p1 < v_mod_steps then (if 0 < (0 : Int32) then (f_Model_pipe_cut N n_mpip v_mod_steps v_mod_items v_mod_least v_mod_most v_mod_told v_mod_pieces v_mod_planWorth v_mod_planCents N 0 p1 true 0 0 v_mod_pipes v_mod_hasPlan v_mpip) else (if v_mod_pipes = (8 : Int32) then (f_Model_pipe_cut N n_mpip v_mod_steps v_mod_items v_mod_least v_mod_most v_mod_told v_mod_pieces v_mod_planWorth v_mod_planCents N 0 p1 true 0 0 v_mod_pipes v_mod_hasPlan v_mpip) else (f_Model_pipe_cut N n_mpip v_mod_steps v_mod_items v_mod_least v_mod_most v_mod_told v_mod_pieces v_mod_planWorth v_mod_planCents N 0 p1 false 0 0 v_mod_pipes v_mod_hasPlan v_mpip))) else (if 0 < (1 : Int32) then (f_Model_pipe_cut N n_mpip v_mod_steps v_mod_items v_mod_least v_mod_most v_mod_told v_mod_pieces v_mod_planWorth v_mod_planCents N 0 p1 true 0 1 v_mod_pipes v_mod_hasPlan v_mpip) else (if v_mod_pipes = (8 : Int32) then (f_Model_pipe_cut N n_mpip v_mod_steps v_mod_items v_mod_least v_mod_most v_mod_told v_mod_pieces v_mod_planWorth v_mod_planCents N 0 p1 true 0 1 v_mod_pipes v_mod_hasPlan v_mpip) else (f_Model_pipe_cut N n_mpip v_mod_steps v_mod_items v_mod_least v_mod_most v_mod_told v_mod_pieces v_mod_planWorth v_mod_planCents N 0 p1 false 0 1 v_mod_pipes v_mod_hasPlan v_mpip)))))
set_option maxRecDepth 100000 in
set_option maxHeartbeats 4000000 in
theorem c_Model_pipe (l : Launch) (D : va_G) (ad : Nat → Nat) (ki : Nat → ClassId) (n_mpip : Nat) (v_mod_code : Int32) (v_mod_steps : Int32) (v_mod_pipes : Int32) (v_mod_items : Int32) (v_mod_least : Int32) (v_mod_most : Int32) (v_mod_hasPlan : Bool) (v_mod_told : Int32) (v_mod_pieces : Int32) (v_mod_planWorth : Int64) (v_mod_planCents : Int64) (v_mpip : Nat → Int32) (p1 : Int32) (N : Nat) (sz : Nat) (r : Bool) (ov_mod_code : Int32) (ov_mod_pipes : Int32) (ov_mod_hasPlan : Bool) (ov_mpip : Nat → Int32) (hf : f_Model_pipe N n_mpip v_mod_code v_mod_steps v_mod_pipes v_mod_items v_mod_least v_mod_most v_mod_hasPlan v_mod_told v_mod_pieces v_mod_planWorth v_mod_planCents v_mpip p1 = some (r, ov_mod_code, ov_mod_pipes, ov_mod_hasPlan, ov_mpip)) : Met l y_Model_pipe w_Model_pipe { frames := 1, cells := 0, slots := 0, locals := 20 } (q_PcM [.ref (ad 29), .int p1] D vwCl [(ad 29, .inr (8, [.int v_mod_code, .int v_mod_steps, .ref (ad 30), .int v_mod_pipes, .ref (ad 31), .int v_mod_items, .ref (ad 32), .ref (ad 33), .ref (ad 34), .ref (ad 35), .ref (ad 36), .ref (ad 37), .ref (ad 38), .int v_mod_least, .int v_mod_most, .ref (ad 39), .ref (ad 40), .ref (ad 41), .ref (ad 42), .ref (ad 43), .ref (ad 44), .int (bI v_mod_hasPlan), .int v_mod_told, .ref (ad 45), .int v_mod_pieces, .ref (ad 46), .ref (ad 47), .ref (ad 48), .long v_mod_planWorth, .long v_mod_planCents])), (ad 31, .inl (ki 0, n_mpip, .inl v_mpip))] (TYS ki) sz) (q_Qm (some (.int (bI r))) D vwCl [(ad 29, .inr (8, [.int ov_mod_code, .int v_mod_steps, .ref (ad 30), .int ov_mod_pipes, .ref (ad 31), .int v_mod_items, .ref (ad 32), .ref (ad 33), .ref (ad 34), .ref (ad 35), .ref (ad 36), .ref (ad 37), .ref (ad 38), .int v_mod_least, .int v_mod_most, .ref (ad 39), .ref (ad 40), .ref (ad 41), .ref (ad 42), .ref (ad 43), .ref (ad 44), .int (bI ov_mod_hasPlan), .int v_mod_told, .ref (ad 45), .int v_mod_pieces, .ref (ad 46), .ref (ad 47), .ref (ad 48), .long v_mod_planWorth, .long v_mod_planCents])), (ad 31, .inl (ki 0, n_mpip, .inl ov_mpip))] (va_A [(ad 29, .inr (8, [.int v_mod_code, .int v_mod_steps, .ref (ad 30), .int v_mod_pipes, .ref (ad 31), .int v_mod_items, .ref (ad 32), .ref (ad 33), .ref (ad 34), .ref (ad 35), .ref (ad 36), .ref (ad 37), .ref (ad 38), .int v_mod_least, .int v_mod_most, .ref (ad 39), .ref (ad 40), .ref (ad 41), .ref (ad 42), .ref (ad 43), .ref (ad 44), .int (bI v_mod_hasPlan), .int v_mod_told, .ref (ad 45), .int v_mod_pieces, .ref (ad 46), .ref (ad 47), .ref (ad 48), .long v_mod_planWorth, .long v_mod_planCents])), (ad 31, .inl (ki 0, n_mpip, .inl v_mpip))] sz)) 0 0 (va_A [(ad 29, .inr (8, [.int v_mod_code, .int v_mod_steps, .ref (ad 30), .int v_mod_pipes, .ref (ad 31), .int v_mod_items, .ref (ad 32), .ref (ad 33), .ref (ad 34), .ref (ad 35), .ref (ad 36), .ref (ad 37), .ref (ad 38), .int v_mod_least, .int v_mod_most, .ref (ad 39), .ref (ad 40), .ref (ad 41), .ref (ad 42), .ref (ad 43), .ref (ad 44), .int (bI v_mod_hasPlan), .int v_mod_told, .ref (ad 45), .int v_mod_pieces, .ref (ad 46), .ref (ad 47), .ref (ad 48), .long v_mod_planWorth, .long v_mod_planCents])), (ad 31, .inl (ki 0, n_mpip, .inl v_mpip))] sz) := by
  refine Met.ofW (cc := b_Model_pipe) (maxL := 4) (ret := (some .boolean)) (by decide) rfl ?_
  intro p e s m args below meth c s₁ B hml hv
  obtain ⟨rfl, hsz, hP, hK, hD0, hE⟩ := hv
  have hx := B.exec
  have hb := B.bytes
  have hr := B.returns
  have hts := atoms_spec (ws := w_Model_pipe) B.pre
  have hown : s.vm.findClass R_Model = some m.cls := findClass_of_methodNamed B.named
  have hlocks := B.notSynchronized
  have hn_Model : ∀ w ∈ u_ws R_Model F_Model 30, w ∈ w_Model_pipe := (fun w h => List.mem_cons_of_mem _ (i_Model w h))
  have hL13 := hts (.fieldLink R_Model 13 "RoomFillsModel" "pipeAt" "[I") (List.mem_cons_of_mem _ m_847)
  have hL69 := hts (.fieldLink R_Model 69 "RoomFillsModel" "steps" "I") (List.mem_cons_of_mem _ m_844)
  have hL76 := hts (.fieldLink R_Model 76 "RoomFillsModel" "code" "I") (List.mem_cons_of_mem _ m_843)
  have hL86 := hts (.fieldLink R_Model 86 "RoomFillsModel" "pipes" "I") (List.mem_cons_of_mem _ m_846)
  subst hsz
  have hD := hD0.self (sz := s.heap.size)
  generalize hAe : va_A [(ad 29, .inr (8, [.int v_mod_code, .int v_mod_steps, .ref (ad 30), .int v_mod_pipes, .ref (ad 31), .int v_mod_items, .ref (ad 32), .ref (ad 33), .ref (ad 34), .ref (ad 35), .ref (ad 36), .ref (ad 37), .ref (ad 38), .int v_mod_least, .int v_mod_most, .ref (ad 39), .ref (ad 40), .ref (ad 41), .ref (ad 42), .ref (ad 43), .ref (ad 44), .int (bI v_mod_hasPlan), .int v_mod_told, .ref (ad 45), .int v_mod_pieces, .ref (ad 46), .ref (ad 47), .ref (ad 48), .long v_mod_planWorth, .long v_mod_planCents])), (ad 31, .inl (ki 0, n_mpip, .inl v_mpip))] s.heap.size = A at hD ⊢
  have hA : ∀ q : Nat, s.heap.size ≤ q → A q := fun q h => by rw [← hAe]; exact Or.inr h
  have hS : va_S A s.heap s.heap [] := va_S.rf
  replace hP : va_P D vwCl [(ad 29, .inr (8, [.int v_mod_code, .int v_mod_steps, .ref (ad 30), .int v_mod_pipes, .ref (ad 31), .int v_mod_items, .ref (ad 32), .ref (ad 33), .ref (ad 34), .ref (ad 35), .ref (ad 36), .ref (ad 37), .ref (ad 38), .int v_mod_least, .int v_mod_most, .ref (ad 39), .ref (ad 40), .ref (ad 41), .ref (ad 42), .ref (ad 43), .ref (ad 44), .int (bI v_mod_hasPlan), .int v_mod_told, .ref (ad 45), .int v_mod_pieces, .ref (ad 46), .ref (ad 47), .ref (ad 48), .long v_mod_planWorth, .long v_mod_planCents])), (ad 31, .inl (ki 0, n_mpip, .inl v_mpip))] s.heap := hP
  have hl := lv_entry ([.ref (ad 29), .int p1]) (n := 4) (Nat.le_of_ble_eq_true rfl)
  rw [lg_entry_eq]
  generalize (lg_sl ([.ref (ad 29), .int p1]) ++ List.replicate (4 - (lg_sl ([.ref (ad 29), .int p1])).length) Slot.unset).toArray = ls at hl ⊢
  replace hl : lv_has ls 4 [(0, .ref (ad 29)), (1, .int p1)] := hl
  have key : ∀ n : Nat, (∀ (x1 : Int32) (x2 : Bool) (x3 : Int32) (v_mod_code : Int32) (v_mod_pipes : Int32) (v_mod_hasPlan : Bool) (v_mpip : Nat → Int32), f_Model_pipe_cut N n_mpip v_mod_steps v_mod_items v_mod_least v_mod_most v_mod_told v_mod_pieces v_mod_planWorth v_mod_planCents n 0 x1 x2 x3 v_mod_code v_mod_pipes v_mod_hasPlan v_mpip = some (r, ov_mod_code, ov_mod_pipes, ov_mod_hasPlan, ov_mpip) → ∀ (H : Heap) (locs : List Loc), va_P D vwCl [(ad 29, .inr (8, [.int v_mod_code, .int v_mod_steps, .ref (ad 30), .int v_mod_pipes, .ref (ad 31), .int v_mod_items, .ref (ad 32), .ref (ad 33), .ref (ad 34), .ref (ad 35), .ref (ad 36), .ref (ad 37), .ref (ad 38), .int v_mod_least, .int v_mod_most, .ref (ad 39), .ref (ad 40), .ref (ad 41), .ref (ad 42), .ref (ad 43), .ref (ad 44), .int (bI v_mod_hasPlan), .int v_mod_told, .ref (ad 45), .int v_mod_pieces, .ref (ad 46), .ref (ad 47), .ref (ad 48), .long v_mod_planWorth, .long v_mod_planCents])), (ad 31, .inl (ki 0, n_mpip, .inl v_mpip))] H → va_D A [(ad 29, .inr (8, [.int v_mod_code, .int v_mod_steps, .ref (ad 30), .int v_mod_pipes, .ref (ad 31), .int v_mod_items, .ref (ad 32), .ref (ad 33), .ref (ad 34), .ref (ad 35), .ref (ad 36), .ref (ad 37), .ref (ad 38), .int v_mod_least, .int v_mod_most, .ref (ad 39), .ref (ad 40), .ref (ad 41), .ref (ad 42), .ref (ad 43), .ref (ad 44), .int (bI v_mod_hasPlan), .int v_mod_told, .ref (ad 45), .int v_mod_pieces, .ref (ad 46), .ref (ad 47), .ref (ad 48), .long v_mod_planWorth, .long v_mod_planCents])), (ad 31, .inl (ki 0, n_mpip, .inl v_mpip))] → va_S A s.heap H locs → ∀ (ls : Array Slot), lv_has ls 4 [(0, .ref (ad 29)), (1, .int x1), (2, .int (bI x2)), (3, .int x3)] → W p l e (headSpec w_Model_pipe { frames := 1, cells := 0, slots := 0, locals := 20 }).room s m ([.ref (ad 29), .int p1] : List Value).toArray below meth c H locs 0 0 (MQ below (q_Qm (some (.int (bI r))) D vwCl [(ad 29, .inr (8, [.int ov_mod_code, .int v_mod_steps, .ref (ad 30), .int ov_mod_pipes, .ref (ad 31), .int v_mod_items, .ref (ad 32), .ref (ad 33), .ref (ad 34), .ref (ad 35), .ref (ad 36), .ref (ad 37), .ref (ad 38), .int v_mod_least, .int v_mod_most, .ref (ad 39), .ref (ad 40), .ref (ad 41), .ref (ad 42), .ref (ad 43), .ref (ad 44), .int (bI ov_mod_hasPlan), .int v_mod_told, .ref (ad 45), .int v_mod_pieces, .ref (ad 46), .ref (ad 47), .ref (ad 48), .long v_mod_planWorth, .long v_mod_planCents])), (ad 31, .inl (ki 0, n_mpip, .inl ov_mpip))] A) ([.ref (ad 29), .int p1] : List Value).toArray s 0 0 A) (F0 m 45 ls [])) := by
    intro n
    induction n with
    | zero =>
      exact fun x1 x2 x3 v_mod_code v_mod_pipes v_mod_hasPlan v_mpip hf => (nomatch (show none = some _ from hf))
    | succ n ih =>
      intro x1 x2 x3 v_mod_code v_mod_pipes v_mod_hasPlan v_mpip hf H locs hP hD hS ls hl
      rw [f_Model_pipe_cut_0] at hf
      refine lv_iload_n hx hb d_Model_pipe_45 rfl (lv_at hl 3 rfl) ?_
      refine lv_aload_n hx hb d_Model_pipe_46 rfl (lv_at hl 0 rfl) ?_
      refine va_get (D := D) (ci := 8) (v := .int v_mod_pipes) (C := R_Model) (T := F_Model) (N := 30) hx hb hts hn_Model hown hK hP 0 rfl rfl 3 (by decide) hL86 (fun _ h9 => h9) rfl d_Model_pipe_47 ?_
      refine lv_icmp_ge (tgt := 79) hx hb d_Model_pipe_50 (by decide) (fun c_1 => ?_) (fun c_1 => ?_)
      · replace hf := q_it hf c_1
        refine lv_iload_n hx hb d_Model_pipe_79 rfl (lv_at hl 2 rfl) ?_
        refine zv_eq (tgt := 85) hx hb d_Model_pipe_80 (by decide) (fun c_2 => ?_) (fun c_2 => ?_)
        · replace hf := q_ie hf c_2
          refine lv_aload_n hx hb d_Model_pipe_85 rfl (lv_at hl 0 rfl) ?_
          refine va_get (D := D) (ci := 8) (v := .ref (ad 31)) (C := R_Model) (T := F_Model) (N := 30) hx hb hts hn_Model hown hK hP 0 rfl rfl 4 (by decide) hL13 (fun _ h9 => h9) rfl d_Model_pipe_86 ?_
          refine lv_aload_n hx hb d_Model_pipe_89 rfl (lv_at hl 0 rfl) ?_
          refine va_get (D := D) (ci := 8) (v := .int v_mod_pipes) (C := R_Model) (T := F_Model) (N := 30) hx hb hts hn_Model hown hK hP 0 rfl rfl 3 (by decide) hL86 (fun _ h9 => h9) rfl d_Model_pipe_90 ?_
          refine lv_iload_n hx hb d_Model_pipe_93 rfl (lv_at hl 1 rfl) ?_
          obtain ⟨hi_3, hf⟩ := q_ck hf
          refine va_iast hx hb hK hP hD hS 1 0 rfl rfl hi_3 d_Model_pipe_94 (fun H locs hP hD hS => ?_)
          replace hP : va_P D vwCl [(ad 29, .inr (8, [.int v_mod_code, .int v_mod_steps, .ref (ad 30), .int v_mod_pipes, .ref (ad 31), .int v_mod_items, .ref (ad 32), .ref (ad 33), .ref (ad 34), .ref (ad 35), .ref (ad 36), .ref (ad 37), .ref (ad 38), .int v_mod_least, .int v_mod_most, .ref (ad 39), .ref (ad 40), .ref (ad 41), .ref (ad 42), .ref (ad 43), .ref (ad 44), .int (bI v_mod_hasPlan), .int v_mod_told, .ref (ad 45), .int v_mod_pieces, .ref (ad 46), .ref (ad 47), .ref (ad 48), .long v_mod_planWorth, .long v_mod_planCents])), (ad 31, .inl (ki 0, n_mpip, .inl (upd v_mpip (Int32.toNatClampNeg v_mod_pipes) x1)))] H := hP
          replace hD : va_D A [(ad 29, .inr (8, [.int v_mod_code, .int v_mod_steps, .ref (ad 30), .int v_mod_pipes, .ref (ad 31), .int v_mod_items, .ref (ad 32), .ref (ad 33), .ref (ad 34), .ref (ad 35), .ref (ad 36), .ref (ad 37), .ref (ad 38), .int v_mod_least, .int v_mod_most, .ref (ad 39), .ref (ad 40), .ref (ad 41), .ref (ad 42), .ref (ad 43), .ref (ad 44), .int (bI v_mod_hasPlan), .int v_mod_told, .ref (ad 45), .int v_mod_pieces, .ref (ad 46), .ref (ad 47), .ref (ad 48), .long v_mod_planWorth, .long v_mod_planCents])), (ad 31, .inl (ki 0, n_mpip, .inl (upd v_mpip (Int32.toNatClampNeg v_mod_pipes) x1)))] := hD
          refine lv_aload_n hx hb d_Model_pipe_95 rfl (lv_at hl 0 rfl) ?_
          refine lv_dup hx hb d_Model_pipe_96 rfl ?_
          refine va_get (D := D) (ci := 8) (v := .int v_mod_pipes) (C := R_Model) (T := F_Model) (N := 30) hx hb hts hn_Model hown hK hP 0 rfl rfl 3 (by decide) hL86 (fun _ h9 => h9) rfl d_Model_pipe_97 ?_
          refine lv_iconst (v := 1) hx hb d_Model_pipe_100 (by decide) ?_
          refine lv_iadd hx hb d_Model_pipe_101 ?_
          refine va_put (D := D) (ci := 8) (v := .int (v_mod_pipes + 1)) (ty := .int) (C := R_Model) (T := F_Model) (N := 30) hx hb hts hn_Model t_Model t_Model_ok n_Model hown hK hP hD hS 0 rfl rfl 3 (by decide) hL86 (fun _ h9 => h9) rfl (by decide +kernel) rfl rfl (Nat.le_of_ble_eq_true rfl) d_Model_pipe_102 (fun H locs hP hD hS => ?_)
          replace hP : va_P D vwCl [(ad 29, .inr (8, [.int v_mod_code, .int v_mod_steps, .ref (ad 30), .int (v_mod_pipes + 1), .ref (ad 31), .int v_mod_items, .ref (ad 32), .ref (ad 33), .ref (ad 34), .ref (ad 35), .ref (ad 36), .ref (ad 37), .ref (ad 38), .int v_mod_least, .int v_mod_most, .ref (ad 39), .ref (ad 40), .ref (ad 41), .ref (ad 42), .ref (ad 43), .ref (ad 44), .int (bI v_mod_hasPlan), .int v_mod_told, .ref (ad 45), .int v_mod_pieces, .ref (ad 46), .ref (ad 47), .ref (ad 48), .long v_mod_planWorth, .long v_mod_planCents])), (ad 31, .inl (ki 0, n_mpip, .inl (upd v_mpip (Int32.toNatClampNeg v_mod_pipes) x1)))] H := hP
          replace hD : va_D A [(ad 29, .inr (8, [.int v_mod_code, .int v_mod_steps, .ref (ad 30), .int (v_mod_pipes + 1), .ref (ad 31), .int v_mod_items, .ref (ad 32), .ref (ad 33), .ref (ad 34), .ref (ad 35), .ref (ad 36), .ref (ad 37), .ref (ad 38), .int v_mod_least, .int v_mod_most, .ref (ad 39), .ref (ad 40), .ref (ad 41), .ref (ad 42), .ref (ad 43), .ref (ad 44), .int (bI v_mod_hasPlan), .int v_mod_told, .ref (ad 45), .int v_mod_pieces, .ref (ad 46), .ref (ad 47), .ref (ad 48), .long v_mod_planWorth, .long v_mod_planCents])), (ad 31, .inl (ki 0, n_mpip, .inl (upd v_mpip (Int32.toNatClampNeg v_mod_pipes) x1)))] := hD
          refine lv_aload_n hx hb d_Model_pipe_105 rfl (lv_at hl 0 rfl) ?_
          obtain ⟨v_mod_hasPlan_4, hc_4, hf⟩ := q_mb hf
          have hC_4 : ([0] : List Nat).map (fun i => ([(ad 29, .inr (8, [.int v_mod_code, .int v_mod_steps, .ref (ad 30), .int (v_mod_pipes + 1), .ref (ad 31), .int v_mod_items, .ref (ad 32), .ref (ad 33), .ref (ad 34), .ref (ad 35), .ref (ad 36), .ref (ad 37), .ref (ad 38), .int v_mod_least, .int v_mod_most, .ref (ad 39), .ref (ad 40), .ref (ad 41), .ref (ad 42), .ref (ad 43), .ref (ad 44), .int (bI v_mod_hasPlan), .int v_mod_told, .ref (ad 45), .int v_mod_pieces, .ref (ad 46), .ref (ad 47), .ref (ad 48), .long v_mod_planWorth, .long v_mod_planCents])), (ad 31, .inl (ki 0, n_mpip, .inl (upd v_mpip (Int32.toNatClampNeg v_mod_pipes) x1)))] : va_W)[i]?) = ([(ad 29, .inr (8, [.int v_mod_code, .int v_mod_steps, .ref (ad 30), .int (v_mod_pipes + 1), .ref (ad 31), .int v_mod_items, .ref (ad 32), .ref (ad 33), .ref (ad 34), .ref (ad 35), .ref (ad 36), .ref (ad 37), .ref (ad 38), .int v_mod_least, .int v_mod_most, .ref (ad 39), .ref (ad 40), .ref (ad 41), .ref (ad 42), .ref (ad 43), .ref (ad 44), .int (bI v_mod_hasPlan), .int v_mod_told, .ref (ad 45), .int v_mod_pieces, .ref (ad 46), .ref (ad 47), .ref (ad 48), .long v_mod_planWorth, .long v_mod_planCents]))] : va_W).map some := rfl
          refine q_mcall3 (w1 := [(ad 29, .inr (8, [.int v_mod_code, .int v_mod_steps, .ref (ad 30), .int (v_mod_pipes + 1), .ref (ad 31), .int v_mod_items, .ref (ad 32), .ref (ad 33), .ref (ad 34), .ref (ad 35), .ref (ad 36), .ref (ad 37), .ref (ad 38), .int v_mod_least, .int v_mod_most, .ref (ad 39), .ref (ad 40), .ref (ad 41), .ref (ad 42), .ref (ad 43), .ref (ad 44), .int (bI v_mod_hasPlan_4), .int v_mod_told, .ref (ad 45), .int v_mod_pieces, .ref (ad 46), .ref (ad 47), .ref (ad 48), .long v_mod_planWorth, .long v_mod_planCents]))]) (ws' := [(ad 29, .inr (8, [.int v_mod_code, .int v_mod_steps, .ref (ad 30), .int (v_mod_pipes + 1), .ref (ad 31), .int v_mod_items, .ref (ad 32), .ref (ad 33), .ref (ad 34), .ref (ad 35), .ref (ad 36), .ref (ad 37), .ref (ad 38), .int v_mod_least, .int v_mod_most, .ref (ad 39), .ref (ad 40), .ref (ad 41), .ref (ad 42), .ref (ad 43), .ref (ad 44), .int (bI v_mod_hasPlan_4), .int v_mod_told, .ref (ad 45), .int v_mod_pieces, .ref (ad 46), .ref (ad 47), .ref (ad 48), .long v_mod_planWorth, .long v_mod_planCents])), (ad 31, .inl (ki 0, n_mpip, .inl (upd v_mpip (Int32.toNatClampNeg v_mod_pipes) x1)))]) (wc := [(ad 29, .inr (8, [.int v_mod_code, .int v_mod_steps, .ref (ad 30), .int (v_mod_pipes + 1), .ref (ad 31), .int v_mod_items, .ref (ad 32), .ref (ad 33), .ref (ad 34), .ref (ad 35), .ref (ad 36), .ref (ad 37), .ref (ad 38), .int v_mod_least, .int v_mod_most, .ref (ad 39), .ref (ad 40), .ref (ad 41), .ref (ad 42), .ref (ad 43), .ref (ad 44), .int (bI v_mod_hasPlan), .int v_mod_told, .ref (ad 45), .int v_mod_pieces, .ref (ad 46), .ref (ad 47), .ref (ad 48), .long v_mod_planWorth, .long v_mod_planCents]))]) (va_runV (As := []) (rest := []) ⟨hx, hb, hml, hown, hts⟩ (c_Model_change l D ad ki v_mod_code v_mod_steps (v_mod_pipes + 1) v_mod_items v_mod_least v_mod_most v_mod_hasPlan v_mod_told v_mod_pieces v_mod_planWorth v_mod_planCents N _ v_mod_hasPlan_4 hc_4) (cwV 0 hts (q_goodV ⟨m_942, m_944, m_31, m_64⟩ m_945) rfl rfl rfl (by decide +kernel) ⟨Nat.le_of_ble_eq_true rfl, Nat.le_of_ble_eq_true rfl⟩) (q_preVM3 hE hK hP hD (by decide +kernel) hC_4 0 8 rfl rfl) rfl rfl hl.1 rfl (lv_room (Nat.le_of_ble_eq_true rfl)) d_Model_pipe_106 ⟨Nat.le_of_ble_eq_true rfl, Nat.le_of_ble_eq_true rfl⟩) hP hD hS hA hC_4 [ad 29, ad 31] rfl rfl (fun H1 h1 hk => (q_c (h1 0 _ rfl) (q_c (hk 1 _ rfl (by decide)) q_n))) rfl (fun H locs hP hD hS => ?_)
          refine lv_iconst (v := 1) hx hb d_Model_pipe_109 (by decide) ?_
          cases hf
          exact W.zret (v := bI true) hx hb hr (bI_nar _) (fun t ht hW => ⟨rfl, by rw [ht]; exact hP, hS.F ht⟩) hS.2.2 d_Model_pipe_110
        replace hf := q_it hf c_2
        refine lv_iconst (v := 0) hx hb d_Model_pipe_83 (by decide) ?_
        cases hf
        exact W.zret (v := bI false) hx hb hr (bI_nar _) (fun t ht hW => ⟨rfl, by rw [ht]; exact hP, hS.F ht⟩) hS.2.2 d_Model_pipe_84
      replace hf := q_ie hf c_1
      refine lv_iload_n hx hb d_Model_pipe_53 rfl (lv_at hl 2 rfl) ?_
      refine zv_ne (tgt := 67) hx hb d_Model_pipe_54 (by decide) (fun c_5 => ?_) (fun c_5 => ?_)
      · replace hf := q_it hf c_5
        refine lv_iconst (v := 1) hx hb d_Model_pipe_67 (by decide) ?_
        refine lv_goto (tgt := 72) hx hb d_Model_pipe_68 (by decide) ?_
        refine lv_istore_n (lv' := [(2, .int (bI true)), (0, .ref (ad 29)), (1, .int x1), (3, .int x3)]) hx hb d_Model_pipe_72 rfl hl (by decide) rfl (fun ls hl => ?_)
        refine lv_iinc (v := (x3 + 1)) (lv' := [(3, .int (x3 + 1)), (2, .int (bI true)), (0, .ref (ad 29)), (1, .int x1)]) hx hb d_Model_pipe_73 hl (k := 3) rfl rfl (by decide) rfl (fun ls hl => ?_)
        refine lv_goto (tgt := 45) hx hb d_Model_pipe_76 (by decide) ?_
        exact (ih) x1 true (x3 + 1) v_mod_code v_mod_pipes v_mod_hasPlan v_mpip hf _ _ hP hD hS ls (lv_sub hl [2, 3, 1, 0] rfl)
      replace hf := q_ie hf c_5
      refine lv_aload_n hx hb d_Model_pipe_57 rfl (lv_at hl 0 rfl) ?_
      refine va_get (D := D) (ci := 8) (v := .ref (ad 31)) (C := R_Model) (T := F_Model) (N := 30) hx hb hts hn_Model hown hK hP 0 rfl rfl 4 (by decide) hL13 (fun _ h9 => h9) rfl d_Model_pipe_58 ?_
      refine lv_iload_n hx hb d_Model_pipe_61 rfl (lv_at hl 3 rfl) ?_
      obtain ⟨hi_6, hf⟩ := q_ck hf
      refine va_iald hx hb hK hP 1 0 rfl rfl hi_6 d_Model_pipe_62 ?_
      refine lv_iload_n hx hb d_Model_pipe_63 rfl (lv_at hl 1 rfl) ?_
      refine lv_icmp_ne (tgt := 71) hx hb d_Model_pipe_64 (by decide) (fun c_7 => ?_) (fun c_7 => ?_)
      · replace hf := q_ie hf c_7
        refine lv_iconst (v := 0) hx hb d_Model_pipe_71 (by decide) ?_
        refine lv_istore_n (lv' := [(2, .int (bI false)), (0, .ref (ad 29)), (1, .int x1), (3, .int x3)]) hx hb d_Model_pipe_72 rfl hl (by decide) rfl (fun ls hl => ?_)
        refine lv_iinc (v := (x3 + 1)) (lv' := [(3, .int (x3 + 1)), (2, .int (bI false)), (0, .ref (ad 29)), (1, .int x1)]) hx hb d_Model_pipe_73 hl (k := 3) rfl rfl (by decide) rfl (fun ls hl => ?_)
        refine lv_goto (tgt := 45) hx hb d_Model_pipe_76 (by decide) ?_
        exact (ih) x1 false (x3 + 1) v_mod_code v_mod_pipes v_mod_hasPlan v_mpip hf _ _ hP hD hS ls (lv_sub hl [2, 3, 1, 0] rfl)
      replace hf := q_it hf c_7
      refine lv_iconst (v := 1) hx hb d_Model_pipe_67 (by decide) ?_
      refine lv_goto (tgt := 72) hx hb d_Model_pipe_68 (by decide) ?_
      refine lv_istore_n (lv' := [(2, .int (bI true)), (0, .ref (ad 29)), (1, .int x1), (3, .int x3)]) hx hb d_Model_pipe_72 rfl hl (by decide) rfl (fun ls hl => ?_)
      refine lv_iinc (v := (x3 + 1)) (lv' := [(3, .int (x3 + 1)), (2, .int (bI true)), (0, .ref (ad 29)), (1, .int x1)]) hx hb d_Model_pipe_73 hl (k := 3) rfl rfl (by decide) rfl (fun ls hl => ?_)
      refine lv_goto (tgt := 45) hx hb d_Model_pipe_76 (by decide) ?_
      exact (ih) x1 true (x3 + 1) v_mod_code v_mod_pipes v_mod_hasPlan v_mpip hf _ _ hP hD hS ls (lv_sub hl [2, 3, 1, 0] rfl)
  unfold f_Model_pipe at hf
  refine lv_aload_n hx hb d_Model_pipe_0 rfl (lv_at hl 0 rfl) ?_
  refine lv_iload_n hx hb d_Model_pipe_1 rfl (lv_at hl 1 rfl) ?_
  refine lv_if_lt (tgt := 13) hx hb d_Model_pipe_2 (by decide) (fun c_8 => ?_) (fun c_8 => ?_)
  · replace hf := q_it hf c_8
    refine lv_iconst (v := 1) hx hb d_Model_pipe_13 (by decide) ?_
    refine lv_goto (tgt := 18) hx hb d_Model_pipe_14 (by decide) ?_
    refine va_put (D := D) (ci := 8) (v := .int 1) (ty := .int) (C := R_Model) (T := F_Model) (N := 30) hx hb hts hn_Model t_Model t_Model_ok n_Model hown hK hP hD hS 0 rfl rfl 0 (by decide) hL76 (fun _ h9 => h9) rfl (by decide +kernel) rfl rfl (Nat.le_of_ble_eq_true rfl) d_Model_pipe_18 (fun H locs hP hD hS => ?_)
    replace hP : va_P D vwCl [(ad 29, .inr (8, [.int 1, .int v_mod_steps, .ref (ad 30), .int v_mod_pipes, .ref (ad 31), .int v_mod_items, .ref (ad 32), .ref (ad 33), .ref (ad 34), .ref (ad 35), .ref (ad 36), .ref (ad 37), .ref (ad 38), .int v_mod_least, .int v_mod_most, .ref (ad 39), .ref (ad 40), .ref (ad 41), .ref (ad 42), .ref (ad 43), .ref (ad 44), .int (bI v_mod_hasPlan), .int v_mod_told, .ref (ad 45), .int v_mod_pieces, .ref (ad 46), .ref (ad 47), .ref (ad 48), .long v_mod_planWorth, .long v_mod_planCents])), (ad 31, .inl (ki 0, n_mpip, .inl v_mpip))] H := hP
    replace hD : va_D A [(ad 29, .inr (8, [.int 1, .int v_mod_steps, .ref (ad 30), .int v_mod_pipes, .ref (ad 31), .int v_mod_items, .ref (ad 32), .ref (ad 33), .ref (ad 34), .ref (ad 35), .ref (ad 36), .ref (ad 37), .ref (ad 38), .int v_mod_least, .int v_mod_most, .ref (ad 39), .ref (ad 40), .ref (ad 41), .ref (ad 42), .ref (ad 43), .ref (ad 44), .int (bI v_mod_hasPlan), .int v_mod_told, .ref (ad 45), .int v_mod_pieces, .ref (ad 46), .ref (ad 47), .ref (ad 48), .long v_mod_planWorth, .long v_mod_planCents])), (ad 31, .inl (ki 0, n_mpip, .inl v_mpip))] := hD
    refine lv_aload_n hx hb d_Model_pipe_21 rfl (lv_at hl 0 rfl) ?_
    refine va_get (D := D) (ci := 8) (v := .int 1) (C := R_Model) (T := F_Model) (N := 30) hx hb hts hn_Model hown hK hP 0 rfl rfl 0 (by decide) hL76 (fun _ h9 => h9) rfl d_Model_pipe_22 ?_
    refine lv_if_gt (tgt := 37) hx hb d_Model_pipe_25 (by decide) (fun c_9 => ?_) (fun c_9 => ?_)
    · replace hf := q_it hf c_9
      refine lv_iconst (v := 1) hx hb d_Model_pipe_37 (by decide) ?_
      refine lv_goto (tgt := 42) hx hb d_Model_pipe_38 (by decide) ?_
      refine lv_istore_n (lv' := [(2, .int (bI true)), (0, .ref (ad 29)), (1, .int p1)]) hx hb d_Model_pipe_42 rfl hl (by decide) rfl (fun ls hl => ?_)
      refine lv_iconst (v := 0) hx hb d_Model_pipe_43 (by decide) ?_
      refine lv_istore_n (lv' := [(3, .int 0), (2, .int (bI true)), (0, .ref (ad 29)), (1, .int p1)]) hx hb d_Model_pipe_44 rfl hl (by decide) rfl (fun ls hl => ?_)
      exact (key N) p1 true 0 1 v_mod_pipes v_mod_hasPlan v_mpip hf _ _ hP hD hS ls (lv_sub hl [2, 3, 1, 0] rfl)
    replace hf := q_ie hf c_9
    refine lv_aload_n hx hb d_Model_pipe_28 rfl (lv_at hl 0 rfl) ?_
    refine va_get (D := D) (ci := 8) (v := .int v_mod_pipes) (C := R_Model) (T := F_Model) (N := 30) hx hb hts hn_Model hown hK hP 0 rfl rfl 3 (by decide) hL86 (fun _ h9 => h9) rfl d_Model_pipe_29 ?_
    refine lv_bipush (v := 8) hx hb d_Model_pipe_32 (by decide) ?_
    refine lv_icmp_ne (tgt := 41) hx hb d_Model_pipe_34 (by decide) (fun c_10 => ?_) (fun c_10 => ?_)
    · replace hf := q_ie hf c_10
      refine lv_iconst (v := 0) hx hb d_Model_pipe_41 (by decide) ?_
      refine lv_istore_n (lv' := [(2, .int (bI false)), (0, .ref (ad 29)), (1, .int p1)]) hx hb d_Model_pipe_42 rfl hl (by decide) rfl (fun ls hl => ?_)
      refine lv_iconst (v := 0) hx hb d_Model_pipe_43 (by decide) ?_
      refine lv_istore_n (lv' := [(3, .int 0), (2, .int (bI false)), (0, .ref (ad 29)), (1, .int p1)]) hx hb d_Model_pipe_44 rfl hl (by decide) rfl (fun ls hl => ?_)
      exact (key N) p1 false 0 1 v_mod_pipes v_mod_hasPlan v_mpip hf _ _ hP hD hS ls (lv_sub hl [2, 3, 1, 0] rfl)
    replace hf := q_it hf c_10
    refine lv_iconst (v := 1) hx hb d_Model_pipe_37 (by decide) ?_
    refine lv_goto (tgt := 42) hx hb d_Model_pipe_38 (by decide) ?_
    refine lv_istore_n (lv' := [(2, .int (bI true)), (0, .ref (ad 29)), (1, .int p1)]) hx hb d_Model_pipe_42 rfl hl (by decide) rfl (fun ls hl => ?_)
    refine lv_iconst (v := 0) hx hb d_Model_pipe_43 (by decide) ?_
    refine lv_istore_n (lv' := [(3, .int 0), (2, .int (bI true)), (0, .ref (ad 29)), (1, .int p1)]) hx hb d_Model_pipe_44 rfl hl (by decide) rfl (fun ls hl => ?_)
    exact (key N) p1 true 0 1 v_mod_pipes v_mod_hasPlan v_mpip hf _ _ hP hD hS ls (lv_sub hl [2, 3, 1, 0] rfl)
  replace hf := q_ie hf c_8
  refine lv_iload_n hx hb d_Model_pipe_5 rfl (lv_at hl 1 rfl) ?_
  refine lv_aload_n hx hb d_Model_pipe_6 rfl (lv_at hl 0 rfl) ?_
  refine va_get (D := D) (ci := 8) (v := .int v_mod_steps) (C := R_Model) (T := F_Model) (N := 30) hx hb hts hn_Model hown hK hP 0 rfl rfl 1 (by decide) hL69 (fun _ h9 => h9) rfl d_Model_pipe_7 ?_
  refine lv_icmp_lt (tgt := 17) hx hb d_Model_pipe_10 (by decide) (fun c_11 => ?_) (fun c_11 => ?_)
  · replace hf := q_it hf c_11
    refine lv_iconst (v := 0) hx hb d_Model_pipe_17 (by decide) ?_
    refine va_put (D := D) (ci := 8) (v := .int 0) (ty := .int) (C := R_Model) (T := F_Model) (N := 30) hx hb hts hn_Model t_Model t_Model_ok n_Model hown hK hP hD hS 0 rfl rfl 0 (by decide) hL76 (fun _ h9 => h9) rfl (by decide +kernel) rfl rfl (Nat.le_of_ble_eq_true rfl) d_Model_pipe_18 (fun H locs hP hD hS => ?_)
    replace hP : va_P D vwCl [(ad 29, .inr (8, [.int 0, .int v_mod_steps, .ref (ad 30), .int v_mod_pipes, .ref (ad 31), .int v_mod_items, .ref (ad 32), .ref (ad 33), .ref (ad 34), .ref (ad 35), .ref (ad 36), .ref (ad 37), .ref (ad 38), .int v_mod_least, .int v_mod_most, .ref (ad 39), .ref (ad 40), .ref (ad 41), .ref (ad 42), .ref (ad 43), .ref (ad 44), .int (bI v_mod_hasPlan), .int v_mod_told, .ref (ad 45), .int v_mod_pieces, .ref (ad 46), .ref (ad 47), .ref (ad 48), .long v_mod_planWorth, .long v_mod_planCents])), (ad 31, .inl (ki 0, n_mpip, .inl v_mpip))] H := hP
    replace hD : va_D A [(ad 29, .inr (8, [.int 0, .int v_mod_steps, .ref (ad 30), .int v_mod_pipes, .ref (ad 31), .int v_mod_items, .ref (ad 32), .ref (ad 33), .ref (ad 34), .ref (ad 35), .ref (ad 36), .ref (ad 37), .ref (ad 38), .int v_mod_least, .int v_mod_most, .ref (ad 39), .ref (ad 40), .ref (ad 41), .ref (ad 42), .ref (ad 43), .ref (ad 44), .int (bI v_mod_hasPlan), .int v_mod_told, .ref (ad 45), .int v_mod_pieces, .ref (ad 46), .ref (ad 47), .ref (ad 48), .long v_mod_planWorth, .long v_mod_planCents])), (ad 31, .inl (ki 0, n_mpip, .inl v_mpip))] := hD
    refine lv_aload_n hx hb d_Model_pipe_21 rfl (lv_at hl 0 rfl) ?_
    refine va_get (D := D) (ci := 8) (v := .int 0) (C := R_Model) (T := F_Model) (N := 30) hx hb hts hn_Model hown hK hP 0 rfl rfl 0 (by decide) hL76 (fun _ h9 => h9) rfl d_Model_pipe_22 ?_
    refine lv_if_gt (tgt := 37) hx hb d_Model_pipe_25 (by decide) (fun c_12 => ?_) (fun c_12 => ?_)
    · replace hf := q_it hf c_12
      refine lv_iconst (v := 1) hx hb d_Model_pipe_37 (by decide) ?_
      refine lv_goto (tgt := 42) hx hb d_Model_pipe_38 (by decide) ?_
      refine lv_istore_n (lv' := [(2, .int (bI true)), (0, .ref (ad 29)), (1, .int p1)]) hx hb d_Model_pipe_42 rfl hl (by decide) rfl (fun ls hl => ?_)
      refine lv_iconst (v := 0) hx hb d_Model_pipe_43 (by decide) ?_
      refine lv_istore_n (lv' := [(3, .int 0), (2, .int (bI true)), (0, .ref (ad 29)), (1, .int p1)]) hx hb d_Model_pipe_44 rfl hl (by decide) rfl (fun ls hl => ?_)
      exact (key N) p1 true 0 0 v_mod_pipes v_mod_hasPlan v_mpip hf _ _ hP hD hS ls (lv_sub hl [2, 3, 1, 0] rfl)
    replace hf := q_ie hf c_12
    refine lv_aload_n hx hb d_Model_pipe_28 rfl (lv_at hl 0 rfl) ?_
    refine va_get (D := D) (ci := 8) (v := .int v_mod_pipes) (C := R_Model) (T := F_Model) (N := 30) hx hb hts hn_Model hown hK hP 0 rfl rfl 3 (by decide) hL86 (fun _ h9 => h9) rfl d_Model_pipe_29 ?_
    refine lv_bipush (v := 8) hx hb d_Model_pipe_32 (by decide) ?_
    refine lv_icmp_ne (tgt := 41) hx hb d_Model_pipe_34 (by decide) (fun c_13 => ?_) (fun c_13 => ?_)
    · replace hf := q_ie hf c_13
      refine lv_iconst (v := 0) hx hb d_Model_pipe_41 (by decide) ?_
      refine lv_istore_n (lv' := [(2, .int (bI false)), (0, .ref (ad 29)), (1, .int p1)]) hx hb d_Model_pipe_42 rfl hl (by decide) rfl (fun ls hl => ?_)
      refine lv_iconst (v := 0) hx hb d_Model_pipe_43 (by decide) ?_
      refine lv_istore_n (lv' := [(3, .int 0), (2, .int (bI false)), (0, .ref (ad 29)), (1, .int p1)]) hx hb d_Model_pipe_44 rfl hl (by decide) rfl (fun ls hl => ?_)
      exact (key N) p1 false 0 0 v_mod_pipes v_mod_hasPlan v_mpip hf _ _ hP hD hS ls (lv_sub hl [2, 3, 1, 0] rfl)
    replace hf := q_it hf c_13
    refine lv_iconst (v := 1) hx hb d_Model_pipe_37 (by decide) ?_
    refine lv_goto (tgt := 42) hx hb d_Model_pipe_38 (by decide) ?_
    refine lv_istore_n (lv' := [(2, .int (bI true)), (0, .ref (ad 29)), (1, .int p1)]) hx hb d_Model_pipe_42 rfl hl (by decide) rfl (fun ls hl => ?_)
    refine lv_iconst (v := 0) hx hb d_Model_pipe_43 (by decide) ?_
    refine lv_istore_n (lv' := [(3, .int 0), (2, .int (bI true)), (0, .ref (ad 29)), (1, .int p1)]) hx hb d_Model_pipe_44 rfl hl (by decide) rfl (fun ls hl => ?_)
    exact (key N) p1 true 0 0 v_mod_pipes v_mod_hasPlan v_mpip hf _ _ hP hD hS ls (lv_sub hl [2, 3, 1, 0] rfl)
  replace hf := q_ie hf c_11
  refine lv_iconst (v := 1) hx hb d_Model_pipe_13 (by decide) ?_
  refine lv_goto (tgt := 18) hx hb d_Model_pipe_14 (by decide) ?_
  refine va_put (D := D) (ci := 8) (v := .int 1) (ty := .int) (C := R_Model) (T := F_Model) (N := 30) hx hb hts hn_Model t_Model t_Model_ok n_Model hown hK hP hD hS 0 rfl rfl 0 (by decide) hL76 (fun _ h9 => h9) rfl (by decide +kernel) rfl rfl (Nat.le_of_ble_eq_true rfl) d_Model_pipe_18 (fun H locs hP hD hS => ?_)
  replace hP : va_P D vwCl [(ad 29, .inr (8, [.int 1, .int v_mod_steps, .ref (ad 30), .int v_mod_pipes, .ref (ad 31), .int v_mod_items, .ref (ad 32), .ref (ad 33), .ref (ad 34), .ref (ad 35), .ref (ad 36), .ref (ad 37), .ref (ad 38), .int v_mod_least, .int v_mod_most, .ref (ad 39), .ref (ad 40), .ref (ad 41), .ref (ad 42), .ref (ad 43), .ref (ad 44), .int (bI v_mod_hasPlan), .int v_mod_told, .ref (ad 45), .int v_mod_pieces, .ref (ad 46), .ref (ad 47), .ref (ad 48), .long v_mod_planWorth, .long v_mod_planCents])), (ad 31, .inl (ki 0, n_mpip, .inl v_mpip))] H := hP
  replace hD : va_D A [(ad 29, .inr (8, [.int 1, .int v_mod_steps, .ref (ad 30), .int v_mod_pipes, .ref (ad 31), .int v_mod_items, .ref (ad 32), .ref (ad 33), .ref (ad 34), .ref (ad 35), .ref (ad 36), .ref (ad 37), .ref (ad 38), .int v_mod_least, .int v_mod_most, .ref (ad 39), .ref (ad 40), .ref (ad 41), .ref (ad 42), .ref (ad 43), .ref (ad 44), .int (bI v_mod_hasPlan), .int v_mod_told, .ref (ad 45), .int v_mod_pieces, .ref (ad 46), .ref (ad 47), .ref (ad 48), .long v_mod_planWorth, .long v_mod_planCents])), (ad 31, .inl (ki 0, n_mpip, .inl v_mpip))] := hD
  refine lv_aload_n hx hb d_Model_pipe_21 rfl (lv_at hl 0 rfl) ?_
  refine va_get (D := D) (ci := 8) (v := .int 1) (C := R_Model) (T := F_Model) (N := 30) hx hb hts hn_Model hown hK hP 0 rfl rfl 0 (by decide) hL76 (fun _ h9 => h9) rfl d_Model_pipe_22 ?_
  refine lv_if_gt (tgt := 37) hx hb d_Model_pipe_25 (by decide) (fun c_14 => ?_) (fun c_14 => ?_)
  · replace hf := q_it hf c_14
    refine lv_iconst (v := 1) hx hb d_Model_pipe_37 (by decide) ?_
    refine lv_goto (tgt := 42) hx hb d_Model_pipe_38 (by decide) ?_
    refine lv_istore_n (lv' := [(2, .int (bI true)), (0, .ref (ad 29)), (1, .int p1)]) hx hb d_Model_pipe_42 rfl hl (by decide) rfl (fun ls hl => ?_)
    refine lv_iconst (v := 0) hx hb d_Model_pipe_43 (by decide) ?_
    refine lv_istore_n (lv' := [(3, .int 0), (2, .int (bI true)), (0, .ref (ad 29)), (1, .int p1)]) hx hb d_Model_pipe_44 rfl hl (by decide) rfl (fun ls hl => ?_)
    exact (key N) p1 true 0 1 v_mod_pipes v_mod_hasPlan v_mpip hf _ _ hP hD hS ls (lv_sub hl [2, 3, 1, 0] rfl)
  replace hf := q_ie hf c_14
  refine lv_aload_n hx hb d_Model_pipe_28 rfl (lv_at hl 0 rfl) ?_
  refine va_get (D := D) (ci := 8) (v := .int v_mod_pipes) (C := R_Model) (T := F_Model) (N := 30) hx hb hts hn_Model hown hK hP 0 rfl rfl 3 (by decide) hL86 (fun _ h9 => h9) rfl d_Model_pipe_29 ?_
  refine lv_bipush (v := 8) hx hb d_Model_pipe_32 (by decide) ?_
  refine lv_icmp_ne (tgt := 41) hx hb d_Model_pipe_34 (by decide) (fun c_15 => ?_) (fun c_15 => ?_)
  · replace hf := q_ie hf c_15
    refine lv_iconst (v := 0) hx hb d_Model_pipe_41 (by decide) ?_
    refine lv_istore_n (lv' := [(2, .int (bI false)), (0, .ref (ad 29)), (1, .int p1)]) hx hb d_Model_pipe_42 rfl hl (by decide) rfl (fun ls hl => ?_)
    refine lv_iconst (v := 0) hx hb d_Model_pipe_43 (by decide) ?_
    refine lv_istore_n (lv' := [(3, .int 0), (2, .int (bI false)), (0, .ref (ad 29)), (1, .int p1)]) hx hb d_Model_pipe_44 rfl hl (by decide) rfl (fun ls hl => ?_)
    exact (key N) p1 false 0 1 v_mod_pipes v_mod_hasPlan v_mpip hf _ _ hP hD hS ls (lv_sub hl [2, 3, 1, 0] rfl)
  replace hf := q_it hf c_15
  refine lv_iconst (v := 1) hx hb d_Model_pipe_37 (by decide) ?_
  refine lv_goto (tgt := 42) hx hb d_Model_pipe_38 (by decide) ?_
  refine lv_istore_n (lv' := [(2, .int (bI true)), (0, .ref (ad 29)), (1, .int p1)]) hx hb d_Model_pipe_42 rfl hl (by decide) rfl (fun ls hl => ?_)
  refine lv_iconst (v := 0) hx hb d_Model_pipe_43 (by decide) ?_
  refine lv_istore_n (lv' := [(3, .int 0), (2, .int (bI true)), (0, .ref (ad 29)), (1, .int p1)]) hx hb d_Model_pipe_44 rfl hl (by decide) rfl (fun ls hl => ?_)
  exact (key N) p1 true 0 1 v_mod_pipes v_mod_hasPlan v_mpip hf _ _ hP hD hS ls (lv_sub hl [2, 3, 1, 0] rfl)
def f_Model_isItem (N : Nat) (v_mod_code : Int32) (v_mod_steps : Int32) (v_mod_pipes : Int32) (v_mod_items : Int32) (v_mod_least : Int32) (v_mod_most : Int32) (v_mod_hasPlan : Bool) (v_mod_told : Int32) (v_mod_pieces : Int32) (v_mod_planWorth : Int64) (v_mod_planCents : Int64) (p1 : Int32) : Option (Bool) := (if p1 < 0 then (some false) else (if v_mod_items ≤ p1 then (some false) else (some true)))
set_option maxRecDepth 100000 in
set_option maxHeartbeats 4000000 in
theorem c_Model_isItem (l : Launch) (D : va_G) (ad : Nat → Nat) (ki : Nat → ClassId) (v_mod_code : Int32) (v_mod_steps : Int32) (v_mod_pipes : Int32) (v_mod_items : Int32) (v_mod_least : Int32) (v_mod_most : Int32) (v_mod_hasPlan : Bool) (v_mod_told : Int32) (v_mod_pieces : Int32) (v_mod_planWorth : Int64) (v_mod_planCents : Int64) (p1 : Int32) (N : Nat) (r : Bool) (hf : f_Model_isItem N v_mod_code v_mod_steps v_mod_pipes v_mod_items v_mod_least v_mod_most v_mod_hasPlan v_mod_told v_mod_pieces v_mod_planWorth v_mod_planCents p1 = some r) : Met l y_Model_isItem w_Model_isItem { frames := 0, cells := 0, slots := 0, locals := 0 } (q_PcP [.ref (ad 29), .int p1] D vwCl [(ad 29, .inr (8, [.int v_mod_code, .int v_mod_steps, .ref (ad 30), .int v_mod_pipes, .ref (ad 31), .int v_mod_items, .ref (ad 32), .ref (ad 33), .ref (ad 34), .ref (ad 35), .ref (ad 36), .ref (ad 37), .ref (ad 38), .int v_mod_least, .int v_mod_most, .ref (ad 39), .ref (ad 40), .ref (ad 41), .ref (ad 42), .ref (ad 43), .ref (ad 44), .int (bI v_mod_hasPlan), .int v_mod_told, .ref (ad 45), .int v_mod_pieces, .ref (ad 46), .ref (ad 47), .ref (ad 48), .long v_mod_planWorth, .long v_mod_planCents]))] (TYS ki)) (k2_QcV (.int (bI r))) 0 0 (fun _ => False) := by
  refine Met.ofW (cc := b_Model_isItem) (maxL := 2) (ret := (some .boolean)) (by decide) rfl ?_
  intro p e s m args below meth c s₁ B hml hv
  obtain ⟨rfl, hP, hK, hE⟩ := hv
  have hx := B.exec
  have hb := B.bytes
  have hr := B.returns
  have hts := atoms_spec (ws := w_Model_isItem) B.pre
  have hown : s.vm.findClass R_Model = some m.cls := findClass_of_methodNamed B.named
  have hlocks := B.notSynchronized
  have hn_Model : ∀ w ∈ u_ws R_Model F_Model 30, w ∈ w_Model_isItem := (fun w h => List.mem_cons_of_mem _ (i_Model w h))
  have hL97 := hts (.fieldLink R_Model 97 "RoomFillsModel" "items" "I") (List.mem_cons_of_mem _ m_848)
  replace hP : va_P D vwCl [(ad 29, .inr (8, [.int v_mod_code, .int v_mod_steps, .ref (ad 30), .int v_mod_pipes, .ref (ad 31), .int v_mod_items, .ref (ad 32), .ref (ad 33), .ref (ad 34), .ref (ad 35), .ref (ad 36), .ref (ad 37), .ref (ad 38), .int v_mod_least, .int v_mod_most, .ref (ad 39), .ref (ad 40), .ref (ad 41), .ref (ad 42), .ref (ad 43), .ref (ad 44), .int (bI v_mod_hasPlan), .int v_mod_told, .ref (ad 45), .int v_mod_pieces, .ref (ad 46), .ref (ad 47), .ref (ad 48), .long v_mod_planWorth, .long v_mod_planCents]))] s.heap := hP
  have hl := lv_entry ([.ref (ad 29), .int p1]) (n := 2) (Nat.le_of_ble_eq_true rfl)
  rw [lg_entry_eq]
  generalize (lg_sl ([.ref (ad 29), .int p1]) ++ List.replicate (2 - (lg_sl ([.ref (ad 29), .int p1])).length) Slot.unset).toArray = ls at hl ⊢
  replace hl : lv_has ls 2 [(0, .ref (ad 29)), (1, .int p1)] := hl
  unfold f_Model_isItem at hf
  refine lv_iload_n hx hb d_Model_isItem_0 rfl (lv_at hl 1 rfl) ?_
  refine lv_if_lt (tgt := 16) hx hb d_Model_isItem_1 (by decide) (fun c_1 => ?_) (fun c_1 => ?_)
  · replace hf := q_it hf c_1
    refine lv_iconst (v := 0) hx hb d_Model_isItem_16 (by decide) ?_
    cases hf
    exact W.zret (v := bI false) hx hb hr (bI_nar _) (fun t ht hW => ⟨rfl, ht⟩) (fun q h => nomatch h) d_Model_isItem_17
  replace hf := q_ie hf c_1
  refine lv_iload_n hx hb d_Model_isItem_4 rfl (lv_at hl 1 rfl) ?_
  refine lv_aload_n hx hb d_Model_isItem_5 rfl (lv_at hl 0 rfl) ?_
  refine va_get (D := D) (ci := 8) (v := .int v_mod_items) (C := R_Model) (T := F_Model) (N := 30) hx hb hts hn_Model hown hK hP 0 rfl rfl 5 (by decide) hL97 (fun _ h9 => h9) rfl d_Model_isItem_6 ?_
  refine lv_icmp_ge (tgt := 16) hx hb d_Model_isItem_9 (by decide) (fun c_2 => ?_) (fun c_2 => ?_)
  · replace hf := q_it hf c_2
    refine lv_iconst (v := 0) hx hb d_Model_isItem_16 (by decide) ?_
    cases hf
    exact W.zret (v := bI false) hx hb hr (bI_nar _) (fun t ht hW => ⟨rfl, ht⟩) (fun q h => nomatch h) d_Model_isItem_17
  replace hf := q_ie hf c_2
  refine lv_iconst (v := 1) hx hb d_Model_isItem_12 (by decide) ?_
  refine lv_goto (tgt := 17) hx hb d_Model_isItem_13 (by decide) ?_
  cases hf
  exact W.zret (v := bI true) hx hb hr (bI_nar _) (fun t ht hW => ⟨rfl, ht⟩) (fun q h => nomatch h) d_Model_isItem_17
def f_Model_need (N : Nat) (n_mnee : Nat) (v_mod_code : Int32) (v_mod_steps : Int32) (v_mod_pipes : Int32) (v_mod_items : Int32) (v_mod_least : Int32) (v_mod_most : Int32) (v_mod_hasPlan : Bool) (v_mod_told : Int32) (v_mod_pieces : Int32) (v_mod_planWorth : Int64) (v_mod_planCents : Int64) (v_mnee : Nat → Int32) (p1 : Int32) (p2 : Int32) : Option (Bool × Int32 × Bool × (Nat → Int32)) := (Option.bind (f_Model_isItem N v_mod_code v_mod_steps v_mod_pipes v_mod_items v_mod_least v_mod_most v_mod_hasPlan v_mod_told v_mod_pieces v_mod_planWorth v_mod_planCents p1) (fun r_1 => (if r_1 = true then (Option.bind (f_Model_isIn N (p2).toInt64 (-1) 40) (fun r_3 => (if r_3 = true then (if 0 < (0 : Int32) then (some (false, 0, v_mod_hasPlan, v_mnee)) else (if p1 < 0 ∨ n_mnee ≤ Int32.toNatClampNeg p1 then none else (if (v_mnee (Int32.toNatClampNeg p1)) = p2 then (some (false, 0, v_mod_hasPlan, v_mnee)) else (if p1 < 0 ∨ n_mnee ≤ Int32.toNatClampNeg p1 then none else (Option.bind (f_Model_change N 0 v_mod_steps v_mod_pipes v_mod_items v_mod_least v_mod_most v_mod_hasPlan v_mod_told v_mod_pieces v_mod_planWorth v_mod_planCents) (fun v_mod_hasPlan_14 => (some (true, 0, v_mod_hasPlan_14, (upd v_mnee (Int32.toNatClampNeg p1) p2))))))))) else (if 0 < (2 : Int32) then (some (false, 2, v_mod_hasPlan, v_mnee)) else (if p1 < 0 ∨ n_mnee ≤ Int32.toNatClampNeg p1 then none else (if (v_mnee (Int32.toNatClampNeg p1)) = p2 then (some (false, 2, v_mod_hasPlan, v_mnee)) else (if p1 < 0 ∨ n_mnee ≤ Int32.toNatClampNeg p1 then none else (Option.bind (f_Model_change N 2 v_mod_steps v_mod_pipes v_mod_items v_mod_least v_mod_most v_mod_hasPlan v_mod_told v_mod_pieces v_mod_planWorth v_mod_planCents) (fun v_mod_hasPlan_9 => (some (true, 2, v_mod_hasPlan_9, (upd v_mnee (Int32.toNatClampNeg p1) p2)))))))))))) else (if 0 < (1 : Int32) then (some (false, 1, v_mod_hasPlan, v_mnee)) else (if p1 < 0 ∨ n_mnee ≤ Int32.toNatClampNeg p1 then none else (if (v_mnee (Int32.toNatClampNeg p1)) = p2 then (some (false, 1, v_mod_hasPlan, v_mnee)) else (if p1 < 0 ∨ n_mnee ≤ Int32.toNatClampNeg p1 then none else (Option.bind (f_Model_change N 1 v_mod_steps v_mod_pipes v_mod_items v_mod_least v_mod_most v_mod_hasPlan v_mod_told v_mod_pieces v_mod_planWorth v_mod_planCents) (fun v_mod_hasPlan_19 => (some (true, 1, v_mod_hasPlan_19, (upd v_mnee (Int32.toNatClampNeg p1) p2))))))))))))
set_option maxRecDepth 100000 in
set_option maxHeartbeats 4000000 in
theorem c_Model_need (l : Launch) (D : va_G) (ad : Nat → Nat) (ki : Nat → ClassId) (n_mnee : Nat) (v_mod_code : Int32) (v_mod_steps : Int32) (v_mod_pipes : Int32) (v_mod_items : Int32) (v_mod_least : Int32) (v_mod_most : Int32) (v_mod_hasPlan : Bool) (v_mod_told : Int32) (v_mod_pieces : Int32) (v_mod_planWorth : Int64) (v_mod_planCents : Int64) (v_mnee : Nat → Int32) (p1 : Int32) (p2 : Int32) (N : Nat) (sz : Nat) (r : Bool) (ov_mod_code : Int32) (ov_mod_hasPlan : Bool) (ov_mnee : Nat → Int32) (hf : f_Model_need N n_mnee v_mod_code v_mod_steps v_mod_pipes v_mod_items v_mod_least v_mod_most v_mod_hasPlan v_mod_told v_mod_pieces v_mod_planWorth v_mod_planCents v_mnee p1 p2 = some (r, ov_mod_code, ov_mod_hasPlan, ov_mnee)) : Met l y_Model_need w_Model_need { frames := 1, cells := 0, slots := 0, locals := 25 } (q_PcM [.ref (ad 29), .int p1, .int p2] D vwCl [(ad 29, .inr (8, [.int v_mod_code, .int v_mod_steps, .ref (ad 30), .int v_mod_pipes, .ref (ad 31), .int v_mod_items, .ref (ad 32), .ref (ad 33), .ref (ad 34), .ref (ad 35), .ref (ad 36), .ref (ad 37), .ref (ad 38), .int v_mod_least, .int v_mod_most, .ref (ad 39), .ref (ad 40), .ref (ad 41), .ref (ad 42), .ref (ad 43), .ref (ad 44), .int (bI v_mod_hasPlan), .int v_mod_told, .ref (ad 45), .int v_mod_pieces, .ref (ad 46), .ref (ad 47), .ref (ad 48), .long v_mod_planWorth, .long v_mod_planCents])), (ad 35, .inl (ki 0, n_mnee, .inl v_mnee))] (TYS ki) sz) (q_Qm (some (.int (bI r))) D vwCl [(ad 29, .inr (8, [.int ov_mod_code, .int v_mod_steps, .ref (ad 30), .int v_mod_pipes, .ref (ad 31), .int v_mod_items, .ref (ad 32), .ref (ad 33), .ref (ad 34), .ref (ad 35), .ref (ad 36), .ref (ad 37), .ref (ad 38), .int v_mod_least, .int v_mod_most, .ref (ad 39), .ref (ad 40), .ref (ad 41), .ref (ad 42), .ref (ad 43), .ref (ad 44), .int (bI ov_mod_hasPlan), .int v_mod_told, .ref (ad 45), .int v_mod_pieces, .ref (ad 46), .ref (ad 47), .ref (ad 48), .long v_mod_planWorth, .long v_mod_planCents])), (ad 35, .inl (ki 0, n_mnee, .inl ov_mnee))] (va_A [(ad 29, .inr (8, [.int v_mod_code, .int v_mod_steps, .ref (ad 30), .int v_mod_pipes, .ref (ad 31), .int v_mod_items, .ref (ad 32), .ref (ad 33), .ref (ad 34), .ref (ad 35), .ref (ad 36), .ref (ad 37), .ref (ad 38), .int v_mod_least, .int v_mod_most, .ref (ad 39), .ref (ad 40), .ref (ad 41), .ref (ad 42), .ref (ad 43), .ref (ad 44), .int (bI v_mod_hasPlan), .int v_mod_told, .ref (ad 45), .int v_mod_pieces, .ref (ad 46), .ref (ad 47), .ref (ad 48), .long v_mod_planWorth, .long v_mod_planCents])), (ad 35, .inl (ki 0, n_mnee, .inl v_mnee))] sz)) 0 0 (va_A [(ad 29, .inr (8, [.int v_mod_code, .int v_mod_steps, .ref (ad 30), .int v_mod_pipes, .ref (ad 31), .int v_mod_items, .ref (ad 32), .ref (ad 33), .ref (ad 34), .ref (ad 35), .ref (ad 36), .ref (ad 37), .ref (ad 38), .int v_mod_least, .int v_mod_most, .ref (ad 39), .ref (ad 40), .ref (ad 41), .ref (ad 42), .ref (ad 43), .ref (ad 44), .int (bI v_mod_hasPlan), .int v_mod_told, .ref (ad 45), .int v_mod_pieces, .ref (ad 46), .ref (ad 47), .ref (ad 48), .long v_mod_planWorth, .long v_mod_planCents])), (ad 35, .inl (ki 0, n_mnee, .inl v_mnee))] sz) := by
  refine Met.ofW (cc := b_Model_need) (maxL := 3) (ret := (some .boolean)) (by decide) rfl ?_
  intro p e s m args below meth c s₁ B hml hv
  obtain ⟨rfl, hsz, hP, hK, hD0, hE⟩ := hv
  have hx := B.exec
  have hb := B.bytes
  have hr := B.returns
  have hts := atoms_spec (ws := w_Model_need) B.pre
  have hown : s.vm.findClass R_Model = some m.cls := findClass_of_methodNamed B.named
  have hlocks := B.notSynchronized
  have hn_Model : ∀ w ∈ u_ws R_Model F_Model 30, w ∈ w_Model_need := (fun w h => List.mem_cons_of_mem _ (i_Model w h))
  have hL27 := hts (.fieldLink R_Model 27 "RoomFillsModel" "needs" "[I") (List.mem_cons_of_mem _ m_852)
  have hL76 := hts (.fieldLink R_Model 76 "RoomFillsModel" "code" "I") (List.mem_cons_of_mem _ m_843)
  have hL104 := hts (.constantLong R_Model 104 (-1)) (List.mem_cons_of_mem _ m_967)
  have hL106 := hts (.constantLong R_Model 106 (40)) (List.mem_cons_of_mem _ m_968)
  subst hsz
  have hD := hD0.self (sz := s.heap.size)
  generalize hAe : va_A [(ad 29, .inr (8, [.int v_mod_code, .int v_mod_steps, .ref (ad 30), .int v_mod_pipes, .ref (ad 31), .int v_mod_items, .ref (ad 32), .ref (ad 33), .ref (ad 34), .ref (ad 35), .ref (ad 36), .ref (ad 37), .ref (ad 38), .int v_mod_least, .int v_mod_most, .ref (ad 39), .ref (ad 40), .ref (ad 41), .ref (ad 42), .ref (ad 43), .ref (ad 44), .int (bI v_mod_hasPlan), .int v_mod_told, .ref (ad 45), .int v_mod_pieces, .ref (ad 46), .ref (ad 47), .ref (ad 48), .long v_mod_planWorth, .long v_mod_planCents])), (ad 35, .inl (ki 0, n_mnee, .inl v_mnee))] s.heap.size = A at hD ⊢
  have hA : ∀ q : Nat, s.heap.size ≤ q → A q := fun q h => by rw [← hAe]; exact Or.inr h
  have hS : va_S A s.heap s.heap [] := va_S.rf
  replace hP : va_P D vwCl [(ad 29, .inr (8, [.int v_mod_code, .int v_mod_steps, .ref (ad 30), .int v_mod_pipes, .ref (ad 31), .int v_mod_items, .ref (ad 32), .ref (ad 33), .ref (ad 34), .ref (ad 35), .ref (ad 36), .ref (ad 37), .ref (ad 38), .int v_mod_least, .int v_mod_most, .ref (ad 39), .ref (ad 40), .ref (ad 41), .ref (ad 42), .ref (ad 43), .ref (ad 44), .int (bI v_mod_hasPlan), .int v_mod_told, .ref (ad 45), .int v_mod_pieces, .ref (ad 46), .ref (ad 47), .ref (ad 48), .long v_mod_planWorth, .long v_mod_planCents])), (ad 35, .inl (ki 0, n_mnee, .inl v_mnee))] s.heap := hP
  have hl := lv_entry ([.ref (ad 29), .int p1, .int p2]) (n := 3) (Nat.le_of_ble_eq_true rfl)
  rw [lg_entry_eq]
  generalize (lg_sl ([.ref (ad 29), .int p1, .int p2]) ++ List.replicate (3 - (lg_sl ([.ref (ad 29), .int p1, .int p2])).length) Slot.unset).toArray = ls at hl ⊢
  replace hl : lv_has ls 3 [(0, .ref (ad 29)), (1, .int p1), (2, .int p2)] := hl
  unfold f_Model_need at hf
  refine lv_aload_n hx hb d_Model_need_0 rfl (lv_at hl 0 rfl) ?_
  refine lv_aload_n hx hb d_Model_need_1 rfl (lv_at hl 0 rfl) ?_
  refine lv_iload_n hx hb d_Model_need_2 rfl (lv_at hl 1 rfl) ?_
  obtain ⟨r_1, hc_1, hf⟩ := q_mb hf
  refine q_pcall (W.runV (As := [.int p1]) (rest := [.ref (ad 29)]) ⟨hx, hb, hml, hown, hts⟩ (c_Model_isItem l D ad ki v_mod_code v_mod_steps v_mod_pipes v_mod_items v_mod_least v_mod_most v_mod_hasPlan v_mod_told v_mod_pieces v_mod_planWorth v_mod_planCents p1 N r_1 hc_1) (cwV 1 hts (q_goodV ⟨m_963, m_965, m_32, m_64⟩ m_966) rfl rfl rfl (by decide +kernel) ⟨Nat.le_of_ble_eq_true rfl, Nat.le_of_ble_eq_true rfl⟩) (q_preVP (wc := [(ad 29, .inr (8, [.int v_mod_code, .int v_mod_steps, .ref (ad 30), .int v_mod_pipes, .ref (ad 31), .int v_mod_items, .ref (ad 32), .ref (ad 33), .ref (ad 34), .ref (ad 35), .ref (ad 36), .ref (ad 37), .ref (ad 38), .int v_mod_least, .int v_mod_most, .ref (ad 39), .ref (ad 40), .ref (ad 41), .ref (ad 42), .ref (ad 43), .ref (ad 44), .int (bI v_mod_hasPlan), .int v_mod_told, .ref (ad 45), .int v_mod_pieces, .ref (ad 46), .ref (ad 47), .ref (ad 48), .long v_mod_planWorth, .long v_mod_planCents]))]) hE hK hP [0] rfl 0 8 rfl rfl) rfl rfl hl.1 rfl (lv_room (Nat.le_of_ble_eq_true rfl)) d_Model_need_3 ⟨Nat.le_of_ble_eq_true rfl, Nat.le_of_ble_eq_true rfl⟩) ?_
  refine zv_ne (tgt := 13) hx hb d_Model_need_6 (by decide) (fun c_2 => ?_) (fun c_2 => ?_)
  · replace hf := q_it hf c_2
    refine lv_iload_n hx hb d_Model_need_13 rfl (lv_at hl 2 rfl) ?_
    refine lv_i2l (v := (p2).toInt64) hx hb d_Model_need_14 rfl ?_
    refine lv_ldc2 (v := (-1)) hx hb hown hL104 d_Model_need_15 ?_
    refine lv_ldc2 (v := 40) hx hb hown hL106 d_Model_need_18 ?_
    obtain ⟨r_3, hc_3, hf⟩ := q_mb hf
    refine q_pcall (W.runS (As := [.long (p2).toInt64, .long (-1), .long 40]) (rest := [.ref (ad 29)]) ⟨hx, hb, hml, hown, hts⟩ (c_Model_isIn l D ad ki (p2).toInt64 (-1) 40 N r_3 hc_3) (va_cwS 3 hts (q_goodS ⟨m_955, m_956, m_64⟩ m_957) rfl rfl rfl (by decide +kernel) ⟨Nat.le_of_ble_eq_true rfl, Nat.le_of_ble_eq_true rfl⟩) (q_preSP (wc := []) hE hK hP [] rfl) rfl rfl hl.1 rfl (lv_room (Nat.le_of_ble_eq_true rfl)) d_Model_need_21 ⟨Nat.le_of_ble_eq_true rfl, Nat.le_of_ble_eq_true rfl⟩) ?_
    refine zv_eq (tgt := 31) hx hb d_Model_need_24 (by decide) (fun c_4 => ?_) (fun c_4 => ?_)
    · replace hf := q_ie hf c_4
      refine lv_iconst (v := 2) hx hb d_Model_need_31 (by decide) ?_
      refine va_put (D := D) (ci := 8) (v := .int 2) (ty := .int) (C := R_Model) (T := F_Model) (N := 30) hx hb hts hn_Model t_Model t_Model_ok n_Model hown hK hP hD hS 0 rfl rfl 0 (by decide) hL76 (fun _ h9 => h9) rfl (by decide +kernel) rfl rfl (Nat.le_of_ble_eq_true rfl) d_Model_need_32 (fun H locs hP hD hS => ?_)
      replace hP : va_P D vwCl [(ad 29, .inr (8, [.int 2, .int v_mod_steps, .ref (ad 30), .int v_mod_pipes, .ref (ad 31), .int v_mod_items, .ref (ad 32), .ref (ad 33), .ref (ad 34), .ref (ad 35), .ref (ad 36), .ref (ad 37), .ref (ad 38), .int v_mod_least, .int v_mod_most, .ref (ad 39), .ref (ad 40), .ref (ad 41), .ref (ad 42), .ref (ad 43), .ref (ad 44), .int (bI v_mod_hasPlan), .int v_mod_told, .ref (ad 45), .int v_mod_pieces, .ref (ad 46), .ref (ad 47), .ref (ad 48), .long v_mod_planWorth, .long v_mod_planCents])), (ad 35, .inl (ki 0, n_mnee, .inl v_mnee))] H := hP
      replace hD : va_D A [(ad 29, .inr (8, [.int 2, .int v_mod_steps, .ref (ad 30), .int v_mod_pipes, .ref (ad 31), .int v_mod_items, .ref (ad 32), .ref (ad 33), .ref (ad 34), .ref (ad 35), .ref (ad 36), .ref (ad 37), .ref (ad 38), .int v_mod_least, .int v_mod_most, .ref (ad 39), .ref (ad 40), .ref (ad 41), .ref (ad 42), .ref (ad 43), .ref (ad 44), .int (bI v_mod_hasPlan), .int v_mod_told, .ref (ad 45), .int v_mod_pieces, .ref (ad 46), .ref (ad 47), .ref (ad 48), .long v_mod_planWorth, .long v_mod_planCents])), (ad 35, .inl (ki 0, n_mnee, .inl v_mnee))] := hD
      refine lv_aload_n hx hb d_Model_need_35 rfl (lv_at hl 0 rfl) ?_
      refine va_get (D := D) (ci := 8) (v := .int 2) (C := R_Model) (T := F_Model) (N := 30) hx hb hts hn_Model hown hK hP 0 rfl rfl 0 (by decide) hL76 (fun _ h9 => h9) rfl d_Model_need_36 ?_
      refine lv_if_gt (tgt := 52) hx hb d_Model_need_39 (by decide) (fun c_5 => ?_) (fun c_5 => ?_)
      · replace hf := q_it hf c_5
        refine lv_iconst (v := 0) hx hb d_Model_need_52 (by decide) ?_
        cases hf
        exact W.zret (v := bI false) hx hb hr (bI_nar _) (fun t ht hW => ⟨rfl, by rw [ht]; exact hP, hS.F ht⟩) hS.2.2 d_Model_need_53
      replace hf := q_ie hf c_5
      refine lv_aload_n hx hb d_Model_need_42 rfl (lv_at hl 0 rfl) ?_
      refine va_get (D := D) (ci := 8) (v := .ref (ad 35)) (C := R_Model) (T := F_Model) (N := 30) hx hb hts hn_Model hown hK hP 0 rfl rfl 9 (by decide) hL27 (fun _ h9 => h9) rfl d_Model_need_43 ?_
      refine lv_iload_n hx hb d_Model_need_46 rfl (lv_at hl 1 rfl) ?_
      obtain ⟨hi_6, hf⟩ := q_ck hf
      refine va_iald hx hb hK hP 1 0 rfl rfl hi_6 d_Model_need_47 ?_
      refine lv_iload_n hx hb d_Model_need_48 rfl (lv_at hl 2 rfl) ?_
      refine lv_icmp_ne (tgt := 54) hx hb d_Model_need_49 (by decide) (fun c_7 => ?_) (fun c_7 => ?_)
      · replace hf := q_ie hf c_7
        refine lv_aload_n hx hb d_Model_need_54 rfl (lv_at hl 0 rfl) ?_
        refine va_get (D := D) (ci := 8) (v := .ref (ad 35)) (C := R_Model) (T := F_Model) (N := 30) hx hb hts hn_Model hown hK hP 0 rfl rfl 9 (by decide) hL27 (fun _ h9 => h9) rfl d_Model_need_55 ?_
        refine lv_iload_n hx hb d_Model_need_58 rfl (lv_at hl 1 rfl) ?_
        refine lv_iload_n hx hb d_Model_need_59 rfl (lv_at hl 2 rfl) ?_
        obtain ⟨hi_8, hf⟩ := q_ck hf
        refine va_iast hx hb hK hP hD hS 1 0 rfl rfl hi_8 d_Model_need_60 (fun H locs hP hD hS => ?_)
        replace hP : va_P D vwCl [(ad 29, .inr (8, [.int 2, .int v_mod_steps, .ref (ad 30), .int v_mod_pipes, .ref (ad 31), .int v_mod_items, .ref (ad 32), .ref (ad 33), .ref (ad 34), .ref (ad 35), .ref (ad 36), .ref (ad 37), .ref (ad 38), .int v_mod_least, .int v_mod_most, .ref (ad 39), .ref (ad 40), .ref (ad 41), .ref (ad 42), .ref (ad 43), .ref (ad 44), .int (bI v_mod_hasPlan), .int v_mod_told, .ref (ad 45), .int v_mod_pieces, .ref (ad 46), .ref (ad 47), .ref (ad 48), .long v_mod_planWorth, .long v_mod_planCents])), (ad 35, .inl (ki 0, n_mnee, .inl (upd v_mnee (Int32.toNatClampNeg p1) p2)))] H := hP
        replace hD : va_D A [(ad 29, .inr (8, [.int 2, .int v_mod_steps, .ref (ad 30), .int v_mod_pipes, .ref (ad 31), .int v_mod_items, .ref (ad 32), .ref (ad 33), .ref (ad 34), .ref (ad 35), .ref (ad 36), .ref (ad 37), .ref (ad 38), .int v_mod_least, .int v_mod_most, .ref (ad 39), .ref (ad 40), .ref (ad 41), .ref (ad 42), .ref (ad 43), .ref (ad 44), .int (bI v_mod_hasPlan), .int v_mod_told, .ref (ad 45), .int v_mod_pieces, .ref (ad 46), .ref (ad 47), .ref (ad 48), .long v_mod_planWorth, .long v_mod_planCents])), (ad 35, .inl (ki 0, n_mnee, .inl (upd v_mnee (Int32.toNatClampNeg p1) p2)))] := hD
        refine lv_aload_n hx hb d_Model_need_61 rfl (lv_at hl 0 rfl) ?_
        obtain ⟨v_mod_hasPlan_9, hc_9, hf⟩ := q_mb hf
        have hC_9 : ([0] : List Nat).map (fun i => ([(ad 29, .inr (8, [.int 2, .int v_mod_steps, .ref (ad 30), .int v_mod_pipes, .ref (ad 31), .int v_mod_items, .ref (ad 32), .ref (ad 33), .ref (ad 34), .ref (ad 35), .ref (ad 36), .ref (ad 37), .ref (ad 38), .int v_mod_least, .int v_mod_most, .ref (ad 39), .ref (ad 40), .ref (ad 41), .ref (ad 42), .ref (ad 43), .ref (ad 44), .int (bI v_mod_hasPlan), .int v_mod_told, .ref (ad 45), .int v_mod_pieces, .ref (ad 46), .ref (ad 47), .ref (ad 48), .long v_mod_planWorth, .long v_mod_planCents])), (ad 35, .inl (ki 0, n_mnee, .inl (upd v_mnee (Int32.toNatClampNeg p1) p2)))] : va_W)[i]?) = ([(ad 29, .inr (8, [.int 2, .int v_mod_steps, .ref (ad 30), .int v_mod_pipes, .ref (ad 31), .int v_mod_items, .ref (ad 32), .ref (ad 33), .ref (ad 34), .ref (ad 35), .ref (ad 36), .ref (ad 37), .ref (ad 38), .int v_mod_least, .int v_mod_most, .ref (ad 39), .ref (ad 40), .ref (ad 41), .ref (ad 42), .ref (ad 43), .ref (ad 44), .int (bI v_mod_hasPlan), .int v_mod_told, .ref (ad 45), .int v_mod_pieces, .ref (ad 46), .ref (ad 47), .ref (ad 48), .long v_mod_planWorth, .long v_mod_planCents]))] : va_W).map some := rfl
        refine q_mcall3 (w1 := [(ad 29, .inr (8, [.int 2, .int v_mod_steps, .ref (ad 30), .int v_mod_pipes, .ref (ad 31), .int v_mod_items, .ref (ad 32), .ref (ad 33), .ref (ad 34), .ref (ad 35), .ref (ad 36), .ref (ad 37), .ref (ad 38), .int v_mod_least, .int v_mod_most, .ref (ad 39), .ref (ad 40), .ref (ad 41), .ref (ad 42), .ref (ad 43), .ref (ad 44), .int (bI v_mod_hasPlan_9), .int v_mod_told, .ref (ad 45), .int v_mod_pieces, .ref (ad 46), .ref (ad 47), .ref (ad 48), .long v_mod_planWorth, .long v_mod_planCents]))]) (ws' := [(ad 29, .inr (8, [.int 2, .int v_mod_steps, .ref (ad 30), .int v_mod_pipes, .ref (ad 31), .int v_mod_items, .ref (ad 32), .ref (ad 33), .ref (ad 34), .ref (ad 35), .ref (ad 36), .ref (ad 37), .ref (ad 38), .int v_mod_least, .int v_mod_most, .ref (ad 39), .ref (ad 40), .ref (ad 41), .ref (ad 42), .ref (ad 43), .ref (ad 44), .int (bI v_mod_hasPlan_9), .int v_mod_told, .ref (ad 45), .int v_mod_pieces, .ref (ad 46), .ref (ad 47), .ref (ad 48), .long v_mod_planWorth, .long v_mod_planCents])), (ad 35, .inl (ki 0, n_mnee, .inl (upd v_mnee (Int32.toNatClampNeg p1) p2)))]) (wc := [(ad 29, .inr (8, [.int 2, .int v_mod_steps, .ref (ad 30), .int v_mod_pipes, .ref (ad 31), .int v_mod_items, .ref (ad 32), .ref (ad 33), .ref (ad 34), .ref (ad 35), .ref (ad 36), .ref (ad 37), .ref (ad 38), .int v_mod_least, .int v_mod_most, .ref (ad 39), .ref (ad 40), .ref (ad 41), .ref (ad 42), .ref (ad 43), .ref (ad 44), .int (bI v_mod_hasPlan), .int v_mod_told, .ref (ad 45), .int v_mod_pieces, .ref (ad 46), .ref (ad 47), .ref (ad 48), .long v_mod_planWorth, .long v_mod_planCents]))]) (va_runV (As := []) (rest := []) ⟨hx, hb, hml, hown, hts⟩ (c_Model_change l D ad ki 2 v_mod_steps v_mod_pipes v_mod_items v_mod_least v_mod_most v_mod_hasPlan v_mod_told v_mod_pieces v_mod_planWorth v_mod_planCents N _ v_mod_hasPlan_9 hc_9) (cwV 0 hts (q_goodV ⟨m_942, m_944, m_31, m_64⟩ m_945) rfl rfl rfl (by decide +kernel) ⟨Nat.le_of_ble_eq_true rfl, Nat.le_of_ble_eq_true rfl⟩) (q_preVM3 hE hK hP hD (by decide +kernel) hC_9 0 8 rfl rfl) rfl rfl hl.1 rfl (lv_room (Nat.le_of_ble_eq_true rfl)) d_Model_need_62 ⟨Nat.le_of_ble_eq_true rfl, Nat.le_of_ble_eq_true rfl⟩) hP hD hS hA hC_9 [ad 29, ad 35] rfl rfl (fun H1 h1 hk => (q_c (h1 0 _ rfl) (q_c (hk 1 _ rfl (by decide)) q_n))) rfl (fun H locs hP hD hS => ?_)
        refine lv_iconst (v := 1) hx hb d_Model_need_65 (by decide) ?_
        cases hf
        exact W.zret (v := bI true) hx hb hr (bI_nar _) (fun t ht hW => ⟨rfl, by rw [ht]; exact hP, hS.F ht⟩) hS.2.2 d_Model_need_66
      replace hf := q_it hf c_7
      refine lv_iconst (v := 0) hx hb d_Model_need_52 (by decide) ?_
      cases hf
      exact W.zret (v := bI false) hx hb hr (bI_nar _) (fun t ht hW => ⟨rfl, by rw [ht]; exact hP, hS.F ht⟩) hS.2.2 d_Model_need_53
    replace hf := q_it hf c_4
    refine lv_iconst (v := 0) hx hb d_Model_need_27 (by decide) ?_
    refine lv_goto (tgt := 32) hx hb d_Model_need_28 (by decide) ?_
    refine va_put (D := D) (ci := 8) (v := .int 0) (ty := .int) (C := R_Model) (T := F_Model) (N := 30) hx hb hts hn_Model t_Model t_Model_ok n_Model hown hK hP hD hS 0 rfl rfl 0 (by decide) hL76 (fun _ h9 => h9) rfl (by decide +kernel) rfl rfl (Nat.le_of_ble_eq_true rfl) d_Model_need_32 (fun H locs hP hD hS => ?_)
    replace hP : va_P D vwCl [(ad 29, .inr (8, [.int 0, .int v_mod_steps, .ref (ad 30), .int v_mod_pipes, .ref (ad 31), .int v_mod_items, .ref (ad 32), .ref (ad 33), .ref (ad 34), .ref (ad 35), .ref (ad 36), .ref (ad 37), .ref (ad 38), .int v_mod_least, .int v_mod_most, .ref (ad 39), .ref (ad 40), .ref (ad 41), .ref (ad 42), .ref (ad 43), .ref (ad 44), .int (bI v_mod_hasPlan), .int v_mod_told, .ref (ad 45), .int v_mod_pieces, .ref (ad 46), .ref (ad 47), .ref (ad 48), .long v_mod_planWorth, .long v_mod_planCents])), (ad 35, .inl (ki 0, n_mnee, .inl v_mnee))] H := hP
    replace hD : va_D A [(ad 29, .inr (8, [.int 0, .int v_mod_steps, .ref (ad 30), .int v_mod_pipes, .ref (ad 31), .int v_mod_items, .ref (ad 32), .ref (ad 33), .ref (ad 34), .ref (ad 35), .ref (ad 36), .ref (ad 37), .ref (ad 38), .int v_mod_least, .int v_mod_most, .ref (ad 39), .ref (ad 40), .ref (ad 41), .ref (ad 42), .ref (ad 43), .ref (ad 44), .int (bI v_mod_hasPlan), .int v_mod_told, .ref (ad 45), .int v_mod_pieces, .ref (ad 46), .ref (ad 47), .ref (ad 48), .long v_mod_planWorth, .long v_mod_planCents])), (ad 35, .inl (ki 0, n_mnee, .inl v_mnee))] := hD
    refine lv_aload_n hx hb d_Model_need_35 rfl (lv_at hl 0 rfl) ?_
    refine va_get (D := D) (ci := 8) (v := .int 0) (C := R_Model) (T := F_Model) (N := 30) hx hb hts hn_Model hown hK hP 0 rfl rfl 0 (by decide) hL76 (fun _ h9 => h9) rfl d_Model_need_36 ?_
    refine lv_if_gt (tgt := 52) hx hb d_Model_need_39 (by decide) (fun c_10 => ?_) (fun c_10 => ?_)
    · replace hf := q_it hf c_10
      refine lv_iconst (v := 0) hx hb d_Model_need_52 (by decide) ?_
      cases hf
      exact W.zret (v := bI false) hx hb hr (bI_nar _) (fun t ht hW => ⟨rfl, by rw [ht]; exact hP, hS.F ht⟩) hS.2.2 d_Model_need_53
    replace hf := q_ie hf c_10
    refine lv_aload_n hx hb d_Model_need_42 rfl (lv_at hl 0 rfl) ?_
    refine va_get (D := D) (ci := 8) (v := .ref (ad 35)) (C := R_Model) (T := F_Model) (N := 30) hx hb hts hn_Model hown hK hP 0 rfl rfl 9 (by decide) hL27 (fun _ h9 => h9) rfl d_Model_need_43 ?_
    refine lv_iload_n hx hb d_Model_need_46 rfl (lv_at hl 1 rfl) ?_
    obtain ⟨hi_11, hf⟩ := q_ck hf
    refine va_iald hx hb hK hP 1 0 rfl rfl hi_11 d_Model_need_47 ?_
    refine lv_iload_n hx hb d_Model_need_48 rfl (lv_at hl 2 rfl) ?_
    refine lv_icmp_ne (tgt := 54) hx hb d_Model_need_49 (by decide) (fun c_12 => ?_) (fun c_12 => ?_)
    · replace hf := q_ie hf c_12
      refine lv_aload_n hx hb d_Model_need_54 rfl (lv_at hl 0 rfl) ?_
      refine va_get (D := D) (ci := 8) (v := .ref (ad 35)) (C := R_Model) (T := F_Model) (N := 30) hx hb hts hn_Model hown hK hP 0 rfl rfl 9 (by decide) hL27 (fun _ h9 => h9) rfl d_Model_need_55 ?_
      refine lv_iload_n hx hb d_Model_need_58 rfl (lv_at hl 1 rfl) ?_
      refine lv_iload_n hx hb d_Model_need_59 rfl (lv_at hl 2 rfl) ?_
      obtain ⟨hi_13, hf⟩ := q_ck hf
      refine va_iast hx hb hK hP hD hS 1 0 rfl rfl hi_13 d_Model_need_60 (fun H locs hP hD hS => ?_)
      replace hP : va_P D vwCl [(ad 29, .inr (8, [.int 0, .int v_mod_steps, .ref (ad 30), .int v_mod_pipes, .ref (ad 31), .int v_mod_items, .ref (ad 32), .ref (ad 33), .ref (ad 34), .ref (ad 35), .ref (ad 36), .ref (ad 37), .ref (ad 38), .int v_mod_least, .int v_mod_most, .ref (ad 39), .ref (ad 40), .ref (ad 41), .ref (ad 42), .ref (ad 43), .ref (ad 44), .int (bI v_mod_hasPlan), .int v_mod_told, .ref (ad 45), .int v_mod_pieces, .ref (ad 46), .ref (ad 47), .ref (ad 48), .long v_mod_planWorth, .long v_mod_planCents])), (ad 35, .inl (ki 0, n_mnee, .inl (upd v_mnee (Int32.toNatClampNeg p1) p2)))] H := hP
      replace hD : va_D A [(ad 29, .inr (8, [.int 0, .int v_mod_steps, .ref (ad 30), .int v_mod_pipes, .ref (ad 31), .int v_mod_items, .ref (ad 32), .ref (ad 33), .ref (ad 34), .ref (ad 35), .ref (ad 36), .ref (ad 37), .ref (ad 38), .int v_mod_least, .int v_mod_most, .ref (ad 39), .ref (ad 40), .ref (ad 41), .ref (ad 42), .ref (ad 43), .ref (ad 44), .int (bI v_mod_hasPlan), .int v_mod_told, .ref (ad 45), .int v_mod_pieces, .ref (ad 46), .ref (ad 47), .ref (ad 48), .long v_mod_planWorth, .long v_mod_planCents])), (ad 35, .inl (ki 0, n_mnee, .inl (upd v_mnee (Int32.toNatClampNeg p1) p2)))] := hD
      refine lv_aload_n hx hb d_Model_need_61 rfl (lv_at hl 0 rfl) ?_
      obtain ⟨v_mod_hasPlan_14, hc_14, hf⟩ := q_mb hf
      have hC_14 : ([0] : List Nat).map (fun i => ([(ad 29, .inr (8, [.int 0, .int v_mod_steps, .ref (ad 30), .int v_mod_pipes, .ref (ad 31), .int v_mod_items, .ref (ad 32), .ref (ad 33), .ref (ad 34), .ref (ad 35), .ref (ad 36), .ref (ad 37), .ref (ad 38), .int v_mod_least, .int v_mod_most, .ref (ad 39), .ref (ad 40), .ref (ad 41), .ref (ad 42), .ref (ad 43), .ref (ad 44), .int (bI v_mod_hasPlan), .int v_mod_told, .ref (ad 45), .int v_mod_pieces, .ref (ad 46), .ref (ad 47), .ref (ad 48), .long v_mod_planWorth, .long v_mod_planCents])), (ad 35, .inl (ki 0, n_mnee, .inl (upd v_mnee (Int32.toNatClampNeg p1) p2)))] : va_W)[i]?) = ([(ad 29, .inr (8, [.int 0, .int v_mod_steps, .ref (ad 30), .int v_mod_pipes, .ref (ad 31), .int v_mod_items, .ref (ad 32), .ref (ad 33), .ref (ad 34), .ref (ad 35), .ref (ad 36), .ref (ad 37), .ref (ad 38), .int v_mod_least, .int v_mod_most, .ref (ad 39), .ref (ad 40), .ref (ad 41), .ref (ad 42), .ref (ad 43), .ref (ad 44), .int (bI v_mod_hasPlan), .int v_mod_told, .ref (ad 45), .int v_mod_pieces, .ref (ad 46), .ref (ad 47), .ref (ad 48), .long v_mod_planWorth, .long v_mod_planCents]))] : va_W).map some := rfl
      refine q_mcall3 (w1 := [(ad 29, .inr (8, [.int 0, .int v_mod_steps, .ref (ad 30), .int v_mod_pipes, .ref (ad 31), .int v_mod_items, .ref (ad 32), .ref (ad 33), .ref (ad 34), .ref (ad 35), .ref (ad 36), .ref (ad 37), .ref (ad 38), .int v_mod_least, .int v_mod_most, .ref (ad 39), .ref (ad 40), .ref (ad 41), .ref (ad 42), .ref (ad 43), .ref (ad 44), .int (bI v_mod_hasPlan_14), .int v_mod_told, .ref (ad 45), .int v_mod_pieces, .ref (ad 46), .ref (ad 47), .ref (ad 48), .long v_mod_planWorth, .long v_mod_planCents]))]) (ws' := [(ad 29, .inr (8, [.int 0, .int v_mod_steps, .ref (ad 30), .int v_mod_pipes, .ref (ad 31), .int v_mod_items, .ref (ad 32), .ref (ad 33), .ref (ad 34), .ref (ad 35), .ref (ad 36), .ref (ad 37), .ref (ad 38), .int v_mod_least, .int v_mod_most, .ref (ad 39), .ref (ad 40), .ref (ad 41), .ref (ad 42), .ref (ad 43), .ref (ad 44), .int (bI v_mod_hasPlan_14), .int v_mod_told, .ref (ad 45), .int v_mod_pieces, .ref (ad 46), .ref (ad 47), .ref (ad 48), .long v_mod_planWorth, .long v_mod_planCents])), (ad 35, .inl (ki 0, n_mnee, .inl (upd v_mnee (Int32.toNatClampNeg p1) p2)))]) (wc := [(ad 29, .inr (8, [.int 0, .int v_mod_steps, .ref (ad 30), .int v_mod_pipes, .ref (ad 31), .int v_mod_items, .ref (ad 32), .ref (ad 33), .ref (ad 34), .ref (ad 35), .ref (ad 36), .ref (ad 37), .ref (ad 38), .int v_mod_least, .int v_mod_most, .ref (ad 39), .ref (ad 40), .ref (ad 41), .ref (ad 42), .ref (ad 43), .ref (ad 44), .int (bI v_mod_hasPlan), .int v_mod_told, .ref (ad 45), .int v_mod_pieces, .ref (ad 46), .ref (ad 47), .ref (ad 48), .long v_mod_planWorth, .long v_mod_planCents]))]) (va_runV (As := []) (rest := []) ⟨hx, hb, hml, hown, hts⟩ (c_Model_change l D ad ki 0 v_mod_steps v_mod_pipes v_mod_items v_mod_least v_mod_most v_mod_hasPlan v_mod_told v_mod_pieces v_mod_planWorth v_mod_planCents N _ v_mod_hasPlan_14 hc_14) (cwV 0 hts (q_goodV ⟨m_942, m_944, m_31, m_64⟩ m_945) rfl rfl rfl (by decide +kernel) ⟨Nat.le_of_ble_eq_true rfl, Nat.le_of_ble_eq_true rfl⟩) (q_preVM3 hE hK hP hD (by decide +kernel) hC_14 0 8 rfl rfl) rfl rfl hl.1 rfl (lv_room (Nat.le_of_ble_eq_true rfl)) d_Model_need_62 ⟨Nat.le_of_ble_eq_true rfl, Nat.le_of_ble_eq_true rfl⟩) hP hD hS hA hC_14 [ad 29, ad 35] rfl rfl (fun H1 h1 hk => (q_c (h1 0 _ rfl) (q_c (hk 1 _ rfl (by decide)) q_n))) rfl (fun H locs hP hD hS => ?_)
      refine lv_iconst (v := 1) hx hb d_Model_need_65 (by decide) ?_
      cases hf
      exact W.zret (v := bI true) hx hb hr (bI_nar _) (fun t ht hW => ⟨rfl, by rw [ht]; exact hP, hS.F ht⟩) hS.2.2 d_Model_need_66
    replace hf := q_it hf c_12
    refine lv_iconst (v := 0) hx hb d_Model_need_52 (by decide) ?_
    cases hf
    exact W.zret (v := bI false) hx hb hr (bI_nar _) (fun t ht hW => ⟨rfl, by rw [ht]; exact hP, hS.F ht⟩) hS.2.2 d_Model_need_53
  replace hf := q_ie hf c_2
  refine lv_iconst (v := 1) hx hb d_Model_need_9 (by decide) ?_
  refine lv_goto (tgt := 32) hx hb d_Model_need_10 (by decide) ?_
  refine va_put (D := D) (ci := 8) (v := .int 1) (ty := .int) (C := R_Model) (T := F_Model) (N := 30) hx hb hts hn_Model t_Model t_Model_ok n_Model hown hK hP hD hS 0 rfl rfl 0 (by decide) hL76 (fun _ h9 => h9) rfl (by decide +kernel) rfl rfl (Nat.le_of_ble_eq_true rfl) d_Model_need_32 (fun H locs hP hD hS => ?_)
  replace hP : va_P D vwCl [(ad 29, .inr (8, [.int 1, .int v_mod_steps, .ref (ad 30), .int v_mod_pipes, .ref (ad 31), .int v_mod_items, .ref (ad 32), .ref (ad 33), .ref (ad 34), .ref (ad 35), .ref (ad 36), .ref (ad 37), .ref (ad 38), .int v_mod_least, .int v_mod_most, .ref (ad 39), .ref (ad 40), .ref (ad 41), .ref (ad 42), .ref (ad 43), .ref (ad 44), .int (bI v_mod_hasPlan), .int v_mod_told, .ref (ad 45), .int v_mod_pieces, .ref (ad 46), .ref (ad 47), .ref (ad 48), .long v_mod_planWorth, .long v_mod_planCents])), (ad 35, .inl (ki 0, n_mnee, .inl v_mnee))] H := hP
  replace hD : va_D A [(ad 29, .inr (8, [.int 1, .int v_mod_steps, .ref (ad 30), .int v_mod_pipes, .ref (ad 31), .int v_mod_items, .ref (ad 32), .ref (ad 33), .ref (ad 34), .ref (ad 35), .ref (ad 36), .ref (ad 37), .ref (ad 38), .int v_mod_least, .int v_mod_most, .ref (ad 39), .ref (ad 40), .ref (ad 41), .ref (ad 42), .ref (ad 43), .ref (ad 44), .int (bI v_mod_hasPlan), .int v_mod_told, .ref (ad 45), .int v_mod_pieces, .ref (ad 46), .ref (ad 47), .ref (ad 48), .long v_mod_planWorth, .long v_mod_planCents])), (ad 35, .inl (ki 0, n_mnee, .inl v_mnee))] := hD
  refine lv_aload_n hx hb d_Model_need_35 rfl (lv_at hl 0 rfl) ?_
  refine va_get (D := D) (ci := 8) (v := .int 1) (C := R_Model) (T := F_Model) (N := 30) hx hb hts hn_Model hown hK hP 0 rfl rfl 0 (by decide) hL76 (fun _ h9 => h9) rfl d_Model_need_36 ?_
  refine lv_if_gt (tgt := 52) hx hb d_Model_need_39 (by decide) (fun c_15 => ?_) (fun c_15 => ?_)
  · replace hf := q_it hf c_15
    refine lv_iconst (v := 0) hx hb d_Model_need_52 (by decide) ?_
    cases hf
    exact W.zret (v := bI false) hx hb hr (bI_nar _) (fun t ht hW => ⟨rfl, by rw [ht]; exact hP, hS.F ht⟩) hS.2.2 d_Model_need_53
  replace hf := q_ie hf c_15
  refine lv_aload_n hx hb d_Model_need_42 rfl (lv_at hl 0 rfl) ?_
  refine va_get (D := D) (ci := 8) (v := .ref (ad 35)) (C := R_Model) (T := F_Model) (N := 30) hx hb hts hn_Model hown hK hP 0 rfl rfl 9 (by decide) hL27 (fun _ h9 => h9) rfl d_Model_need_43 ?_
  refine lv_iload_n hx hb d_Model_need_46 rfl (lv_at hl 1 rfl) ?_
  obtain ⟨hi_16, hf⟩ := q_ck hf
  refine va_iald hx hb hK hP 1 0 rfl rfl hi_16 d_Model_need_47 ?_
  refine lv_iload_n hx hb d_Model_need_48 rfl (lv_at hl 2 rfl) ?_
  refine lv_icmp_ne (tgt := 54) hx hb d_Model_need_49 (by decide) (fun c_17 => ?_) (fun c_17 => ?_)
  · replace hf := q_ie hf c_17
    refine lv_aload_n hx hb d_Model_need_54 rfl (lv_at hl 0 rfl) ?_
    refine va_get (D := D) (ci := 8) (v := .ref (ad 35)) (C := R_Model) (T := F_Model) (N := 30) hx hb hts hn_Model hown hK hP 0 rfl rfl 9 (by decide) hL27 (fun _ h9 => h9) rfl d_Model_need_55 ?_
    refine lv_iload_n hx hb d_Model_need_58 rfl (lv_at hl 1 rfl) ?_
    refine lv_iload_n hx hb d_Model_need_59 rfl (lv_at hl 2 rfl) ?_
    obtain ⟨hi_18, hf⟩ := q_ck hf
    refine va_iast hx hb hK hP hD hS 1 0 rfl rfl hi_18 d_Model_need_60 (fun H locs hP hD hS => ?_)
    replace hP : va_P D vwCl [(ad 29, .inr (8, [.int 1, .int v_mod_steps, .ref (ad 30), .int v_mod_pipes, .ref (ad 31), .int v_mod_items, .ref (ad 32), .ref (ad 33), .ref (ad 34), .ref (ad 35), .ref (ad 36), .ref (ad 37), .ref (ad 38), .int v_mod_least, .int v_mod_most, .ref (ad 39), .ref (ad 40), .ref (ad 41), .ref (ad 42), .ref (ad 43), .ref (ad 44), .int (bI v_mod_hasPlan), .int v_mod_told, .ref (ad 45), .int v_mod_pieces, .ref (ad 46), .ref (ad 47), .ref (ad 48), .long v_mod_planWorth, .long v_mod_planCents])), (ad 35, .inl (ki 0, n_mnee, .inl (upd v_mnee (Int32.toNatClampNeg p1) p2)))] H := hP
    replace hD : va_D A [(ad 29, .inr (8, [.int 1, .int v_mod_steps, .ref (ad 30), .int v_mod_pipes, .ref (ad 31), .int v_mod_items, .ref (ad 32), .ref (ad 33), .ref (ad 34), .ref (ad 35), .ref (ad 36), .ref (ad 37), .ref (ad 38), .int v_mod_least, .int v_mod_most, .ref (ad 39), .ref (ad 40), .ref (ad 41), .ref (ad 42), .ref (ad 43), .ref (ad 44), .int (bI v_mod_hasPlan), .int v_mod_told, .ref (ad 45), .int v_mod_pieces, .ref (ad 46), .ref (ad 47), .ref (ad 48), .long v_mod_planWorth, .long v_mod_planCents])), (ad 35, .inl (ki 0, n_mnee, .inl (upd v_mnee (Int32.toNatClampNeg p1) p2)))] := hD
    refine lv_aload_n hx hb d_Model_need_61 rfl (lv_at hl 0 rfl) ?_
    obtain ⟨v_mod_hasPlan_19, hc_19, hf⟩ := q_mb hf
    have hC_19 : ([0] : List Nat).map (fun i => ([(ad 29, .inr (8, [.int 1, .int v_mod_steps, .ref (ad 30), .int v_mod_pipes, .ref (ad 31), .int v_mod_items, .ref (ad 32), .ref (ad 33), .ref (ad 34), .ref (ad 35), .ref (ad 36), .ref (ad 37), .ref (ad 38), .int v_mod_least, .int v_mod_most, .ref (ad 39), .ref (ad 40), .ref (ad 41), .ref (ad 42), .ref (ad 43), .ref (ad 44), .int (bI v_mod_hasPlan), .int v_mod_told, .ref (ad 45), .int v_mod_pieces, .ref (ad 46), .ref (ad 47), .ref (ad 48), .long v_mod_planWorth, .long v_mod_planCents])), (ad 35, .inl (ki 0, n_mnee, .inl (upd v_mnee (Int32.toNatClampNeg p1) p2)))] : va_W)[i]?) = ([(ad 29, .inr (8, [.int 1, .int v_mod_steps, .ref (ad 30), .int v_mod_pipes, .ref (ad 31), .int v_mod_items, .ref (ad 32), .ref (ad 33), .ref (ad 34), .ref (ad 35), .ref (ad 36), .ref (ad 37), .ref (ad 38), .int v_mod_least, .int v_mod_most, .ref (ad 39), .ref (ad 40), .ref (ad 41), .ref (ad 42), .ref (ad 43), .ref (ad 44), .int (bI v_mod_hasPlan), .int v_mod_told, .ref (ad 45), .int v_mod_pieces, .ref (ad 46), .ref (ad 47), .ref (ad 48), .long v_mod_planWorth, .long v_mod_planCents]))] : va_W).map some := rfl
    refine q_mcall3 (w1 := [(ad 29, .inr (8, [.int 1, .int v_mod_steps, .ref (ad 30), .int v_mod_pipes, .ref (ad 31), .int v_mod_items, .ref (ad 32), .ref (ad 33), .ref (ad 34), .ref (ad 35), .ref (ad 36), .ref (ad 37), .ref (ad 38), .int v_mod_least, .int v_mod_most, .ref (ad 39), .ref (ad 40), .ref (ad 41), .ref (ad 42), .ref (ad 43), .ref (ad 44), .int (bI v_mod_hasPlan_19), .int v_mod_told, .ref (ad 45), .int v_mod_pieces, .ref (ad 46), .ref (ad 47), .ref (ad 48), .long v_mod_planWorth, .long v_mod_planCents]))]) (ws' := [(ad 29, .inr (8, [.int 1, .int v_mod_steps, .ref (ad 30), .int v_mod_pipes, .ref (ad 31), .int v_mod_items, .ref (ad 32), .ref (ad 33), .ref (ad 34), .ref (ad 35), .ref (ad 36), .ref (ad 37), .ref (ad 38), .int v_mod_least, .int v_mod_most, .ref (ad 39), .ref (ad 40), .ref (ad 41), .ref (ad 42), .ref (ad 43), .ref (ad 44), .int (bI v_mod_hasPlan_19), .int v_mod_told, .ref (ad 45), .int v_mod_pieces, .ref (ad 46), .ref (ad 47), .ref (ad 48), .long v_mod_planWorth, .long v_mod_planCents])), (ad 35, .inl (ki 0, n_mnee, .inl (upd v_mnee (Int32.toNatClampNeg p1) p2)))]) (wc := [(ad 29, .inr (8, [.int 1, .int v_mod_steps, .ref (ad 30), .int v_mod_pipes, .ref (ad 31), .int v_mod_items, .ref (ad 32), .ref (ad 33), .ref (ad 34), .ref (ad 35), .ref (ad 36), .ref (ad 37), .ref (ad 38), .int v_mod_least, .int v_mod_most, .ref (ad 39), .ref (ad 40), .ref (ad 41), .ref (ad 42), .ref (ad 43), .ref (ad 44), .int (bI v_mod_hasPlan), .int v_mod_told, .ref (ad 45), .int v_mod_pieces, .ref (ad 46), .ref (ad 47), .ref (ad 48), .long v_mod_planWorth, .long v_mod_planCents]))]) (va_runV (As := []) (rest := []) ⟨hx, hb, hml, hown, hts⟩ (c_Model_change l D ad ki 1 v_mod_steps v_mod_pipes v_mod_items v_mod_least v_mod_most v_mod_hasPlan v_mod_told v_mod_pieces v_mod_planWorth v_mod_planCents N _ v_mod_hasPlan_19 hc_19) (cwV 0 hts (q_goodV ⟨m_942, m_944, m_31, m_64⟩ m_945) rfl rfl rfl (by decide +kernel) ⟨Nat.le_of_ble_eq_true rfl, Nat.le_of_ble_eq_true rfl⟩) (q_preVM3 hE hK hP hD (by decide +kernel) hC_19 0 8 rfl rfl) rfl rfl hl.1 rfl (lv_room (Nat.le_of_ble_eq_true rfl)) d_Model_need_62 ⟨Nat.le_of_ble_eq_true rfl, Nat.le_of_ble_eq_true rfl⟩) hP hD hS hA hC_19 [ad 29, ad 35] rfl rfl (fun H1 h1 hk => (q_c (h1 0 _ rfl) (q_c (hk 1 _ rfl (by decide)) q_n))) rfl (fun H locs hP hD hS => ?_)
    refine lv_iconst (v := 1) hx hb d_Model_need_65 (by decide) ?_
    cases hf
    exact W.zret (v := bI true) hx hb hr (bI_nar _) (fun t ht hW => ⟨rfl, by rw [ht]; exact hP, hS.F ht⟩) hS.2.2 d_Model_need_66
  replace hf := q_it hf c_17
  refine lv_iconst (v := 0) hx hb d_Model_need_52 (by decide) ?_
  cases hf
  exact W.zret (v := bI false) hx hb hr (bI_nar _) (fun t ht hW => ⟨rfl, by rw [ht]; exact hP, hS.F ht⟩) hS.2.2 d_Model_need_53
def f_Model_pairCode (N : Nat) (v_mod_code : Int32) (v_mod_steps : Int32) (v_mod_pipes : Int32) (v_mod_items : Int32) (v_mod_least : Int32) (v_mod_most : Int32) (v_mod_hasPlan : Bool) (v_mod_told : Int32) (v_mod_pieces : Int32) (v_mod_planWorth : Int64) (v_mod_planCents : Int64) (p1 : Int32) (p2 : Int32) : Option (Int32) := (Option.bind (f_Model_isItem N v_mod_code v_mod_steps v_mod_pipes v_mod_items v_mod_least v_mod_most v_mod_hasPlan v_mod_told v_mod_pieces v_mod_planWorth v_mod_planCents p1) (fun r_1 => (if r_1 = true then (Option.bind (f_Model_isItem N v_mod_code v_mod_steps v_mod_pipes v_mod_items v_mod_least v_mod_most v_mod_hasPlan v_mod_told v_mod_pieces v_mod_planWorth v_mod_planCents p2) (fun r_3 => (if r_3 = true then (if p1 = p2 then (some 2) else (some 0)) else (some 1)))) else (some 1))))
set_option maxRecDepth 100000 in
set_option maxHeartbeats 4000000 in
theorem c_Model_pairCode (l : Launch) (D : va_G) (ad : Nat → Nat) (ki : Nat → ClassId) (v_mod_code : Int32) (v_mod_steps : Int32) (v_mod_pipes : Int32) (v_mod_items : Int32) (v_mod_least : Int32) (v_mod_most : Int32) (v_mod_hasPlan : Bool) (v_mod_told : Int32) (v_mod_pieces : Int32) (v_mod_planWorth : Int64) (v_mod_planCents : Int64) (p1 : Int32) (p2 : Int32) (N : Nat) (r : Int32) (hf : f_Model_pairCode N v_mod_code v_mod_steps v_mod_pipes v_mod_items v_mod_least v_mod_most v_mod_hasPlan v_mod_told v_mod_pieces v_mod_planWorth v_mod_planCents p1 p2 = some r) : Met l y_Model_pairCode w_Model_pairCode { frames := 1, cells := 0, slots := 0, locals := 21 } (q_PcP [.ref (ad 29), .int p1, .int p2] D vwCl [(ad 29, .inr (8, [.int v_mod_code, .int v_mod_steps, .ref (ad 30), .int v_mod_pipes, .ref (ad 31), .int v_mod_items, .ref (ad 32), .ref (ad 33), .ref (ad 34), .ref (ad 35), .ref (ad 36), .ref (ad 37), .ref (ad 38), .int v_mod_least, .int v_mod_most, .ref (ad 39), .ref (ad 40), .ref (ad 41), .ref (ad 42), .ref (ad 43), .ref (ad 44), .int (bI v_mod_hasPlan), .int v_mod_told, .ref (ad 45), .int v_mod_pieces, .ref (ad 46), .ref (ad 47), .ref (ad 48), .long v_mod_planWorth, .long v_mod_planCents]))] (TYS ki)) (k2_QcV (.int r)) 0 0 (fun _ => False) := by
  refine Met.ofW (cc := b_Model_pairCode) (maxL := 3) (ret := (some .int)) (by decide) rfl ?_
  intro p e s m args below meth c s₁ B hml hv
  obtain ⟨rfl, hP, hK, hE⟩ := hv
  have hx := B.exec
  have hb := B.bytes
  have hr := B.returns
  have hts := atoms_spec (ws := w_Model_pairCode) B.pre
  have hown : s.vm.findClass R_Model = some m.cls := findClass_of_methodNamed B.named
  have hlocks := B.notSynchronized
  replace hP : va_P D vwCl [(ad 29, .inr (8, [.int v_mod_code, .int v_mod_steps, .ref (ad 30), .int v_mod_pipes, .ref (ad 31), .int v_mod_items, .ref (ad 32), .ref (ad 33), .ref (ad 34), .ref (ad 35), .ref (ad 36), .ref (ad 37), .ref (ad 38), .int v_mod_least, .int v_mod_most, .ref (ad 39), .ref (ad 40), .ref (ad 41), .ref (ad 42), .ref (ad 43), .ref (ad 44), .int (bI v_mod_hasPlan), .int v_mod_told, .ref (ad 45), .int v_mod_pieces, .ref (ad 46), .ref (ad 47), .ref (ad 48), .long v_mod_planWorth, .long v_mod_planCents]))] s.heap := hP
  have hl := lv_entry ([.ref (ad 29), .int p1, .int p2]) (n := 3) (Nat.le_of_ble_eq_true rfl)
  rw [lg_entry_eq]
  generalize (lg_sl ([.ref (ad 29), .int p1, .int p2]) ++ List.replicate (3 - (lg_sl ([.ref (ad 29), .int p1, .int p2])).length) Slot.unset).toArray = ls at hl ⊢
  replace hl : lv_has ls 3 [(0, .ref (ad 29)), (1, .int p1), (2, .int p2)] := hl
  unfold f_Model_pairCode at hf
  refine lv_aload_n hx hb d_Model_pairCode_0 rfl (lv_at hl 0 rfl) ?_
  refine lv_iload_n hx hb d_Model_pairCode_1 rfl (lv_at hl 1 rfl) ?_
  obtain ⟨r_1, hc_1, hf⟩ := q_mb hf
  refine q_pcall (W.runV (As := [.int p1]) (rest := []) ⟨hx, hb, hml, hown, hts⟩ (c_Model_isItem l D ad ki v_mod_code v_mod_steps v_mod_pipes v_mod_items v_mod_least v_mod_most v_mod_hasPlan v_mod_told v_mod_pieces v_mod_planWorth v_mod_planCents p1 N r_1 hc_1) (cwV 1 hts (q_goodV ⟨m_963, m_965, m_32, m_64⟩ m_966) rfl rfl rfl (by decide +kernel) ⟨Nat.le_of_ble_eq_true rfl, Nat.le_of_ble_eq_true rfl⟩) (q_preVP (wc := [(ad 29, .inr (8, [.int v_mod_code, .int v_mod_steps, .ref (ad 30), .int v_mod_pipes, .ref (ad 31), .int v_mod_items, .ref (ad 32), .ref (ad 33), .ref (ad 34), .ref (ad 35), .ref (ad 36), .ref (ad 37), .ref (ad 38), .int v_mod_least, .int v_mod_most, .ref (ad 39), .ref (ad 40), .ref (ad 41), .ref (ad 42), .ref (ad 43), .ref (ad 44), .int (bI v_mod_hasPlan), .int v_mod_told, .ref (ad 45), .int v_mod_pieces, .ref (ad 46), .ref (ad 47), .ref (ad 48), .long v_mod_planWorth, .long v_mod_planCents]))]) hE hK hP [0] rfl 0 8 rfl rfl) rfl rfl hl.1 rfl (lv_room (Nat.le_of_ble_eq_true rfl)) d_Model_pairCode_2 ⟨Nat.le_of_ble_eq_true rfl, Nat.le_of_ble_eq_true rfl⟩) ?_
  refine zv_eq (tgt := 16) hx hb d_Model_pairCode_5 (by decide) (fun c_2 => ?_) (fun c_2 => ?_)
  · replace hf := q_ie hf c_2
    refine lv_iconst (v := 1) hx hb d_Model_pairCode_16 (by decide) ?_
    refine lv_goto (tgt := 30) hx hb d_Model_pairCode_17 (by decide) ?_
    cases hf
    exact W.iret (v := 1) hx hb hr (fun t ht hW => ⟨rfl, ht⟩) (fun q h => nomatch h) d_Model_pairCode_30
  replace hf := q_it hf c_2
  refine lv_aload_n hx hb d_Model_pairCode_8 rfl (lv_at hl 0 rfl) ?_
  refine lv_iload_n hx hb d_Model_pairCode_9 rfl (lv_at hl 2 rfl) ?_
  obtain ⟨r_3, hc_3, hf⟩ := q_mb hf
  refine q_pcall (W.runV (As := [.int p2]) (rest := []) ⟨hx, hb, hml, hown, hts⟩ (c_Model_isItem l D ad ki v_mod_code v_mod_steps v_mod_pipes v_mod_items v_mod_least v_mod_most v_mod_hasPlan v_mod_told v_mod_pieces v_mod_planWorth v_mod_planCents p2 N r_3 hc_3) (cwV 1 hts (q_goodV ⟨m_963, m_965, m_32, m_64⟩ m_966) rfl rfl rfl (by decide +kernel) ⟨Nat.le_of_ble_eq_true rfl, Nat.le_of_ble_eq_true rfl⟩) (q_preVP (wc := [(ad 29, .inr (8, [.int v_mod_code, .int v_mod_steps, .ref (ad 30), .int v_mod_pipes, .ref (ad 31), .int v_mod_items, .ref (ad 32), .ref (ad 33), .ref (ad 34), .ref (ad 35), .ref (ad 36), .ref (ad 37), .ref (ad 38), .int v_mod_least, .int v_mod_most, .ref (ad 39), .ref (ad 40), .ref (ad 41), .ref (ad 42), .ref (ad 43), .ref (ad 44), .int (bI v_mod_hasPlan), .int v_mod_told, .ref (ad 45), .int v_mod_pieces, .ref (ad 46), .ref (ad 47), .ref (ad 48), .long v_mod_planWorth, .long v_mod_planCents]))]) hE hK hP [0] rfl 0 8 rfl rfl) rfl rfl hl.1 rfl (lv_room (Nat.le_of_ble_eq_true rfl)) d_Model_pairCode_10 ⟨Nat.le_of_ble_eq_true rfl, Nat.le_of_ble_eq_true rfl⟩) ?_
  refine zv_ne (tgt := 20) hx hb d_Model_pairCode_13 (by decide) (fun c_4 => ?_) (fun c_4 => ?_)
  · replace hf := q_it hf c_4
    refine lv_iload_n hx hb d_Model_pairCode_20 rfl (lv_at hl 1 rfl) ?_
    refine lv_iload_n hx hb d_Model_pairCode_21 rfl (lv_at hl 2 rfl) ?_
    refine lv_icmp_ne (tgt := 29) hx hb d_Model_pairCode_22 (by decide) (fun c_5 => ?_) (fun c_5 => ?_)
    · replace hf := q_ie hf c_5
      refine lv_iconst (v := 0) hx hb d_Model_pairCode_29 (by decide) ?_
      cases hf
      exact W.iret (v := 0) hx hb hr (fun t ht hW => ⟨rfl, ht⟩) (fun q h => nomatch h) d_Model_pairCode_30
    replace hf := q_it hf c_5
    refine lv_iconst (v := 2) hx hb d_Model_pairCode_25 (by decide) ?_
    refine lv_goto (tgt := 30) hx hb d_Model_pairCode_26 (by decide) ?_
    cases hf
    exact W.iret (v := 2) hx hb hr (fun t ht hW => ⟨rfl, ht⟩) (fun q h => nomatch h) d_Model_pairCode_30
  replace hf := q_ie hf c_4
  refine lv_iconst (v := 1) hx hb d_Model_pairCode_16 (by decide) ?_
  refine lv_goto (tgt := 30) hx hb d_Model_pairCode_17 (by decide) ?_
  cases hf
  exact W.iret (v := 1) hx hb hr (fun t ht hW => ⟨rfl, ht⟩) (fun q h => nomatch h) d_Model_pairCode_30
def f_Model_near (N : Nat) (n_mnea : Nat) (v_mod_code : Int32) (v_mod_steps : Int32) (v_mod_pipes : Int32) (v_mod_items : Int32) (v_mod_least : Int32) (v_mod_most : Int32) (v_mod_hasPlan : Bool) (v_mod_told : Int32) (v_mod_pieces : Int32) (v_mod_planWorth : Int64) (v_mod_planCents : Int64) (v_mnea : Nat → Int64) (p1 : Int32) (p2 : Int32) (p3 : Int64) : Option (Bool × Int32 × Bool × (Nat → Int64)) := (Option.bind (f_Model_pairCode N v_mod_code v_mod_steps v_mod_pipes v_mod_items v_mod_least v_mod_most v_mod_hasPlan v_mod_told v_mod_pieces v_mod_planWorth v_mod_planCents p1 p2) (fun r_1 => (if r_1 = 0 then (Option.bind (f_Model_isIn N p3 0 100000) (fun r_9 => (if r_9 = true then (if 0 < r_1 then (some (false, r_1, v_mod_hasPlan, v_mnea)) else (if ((6 * p1) + p2) < 0 ∨ n_mnea ≤ Int32.toNatClampNeg ((6 * p1) + p2) then none else (if (lg_cmp (v_mnea (Int32.toNatClampNeg ((6 * p1) + p2))) p3) = 0 then (some (false, r_1, v_mod_hasPlan, v_mnea)) else (if ((6 * p1) + p2) < 0 ∨ n_mnea ≤ Int32.toNatClampNeg ((6 * p1) + p2) then none else (if ((6 * p2) + p1) < 0 ∨ n_mnea ≤ Int32.toNatClampNeg ((6 * p2) + p1) then none else (Option.bind (f_Model_change N r_1 v_mod_steps v_mod_pipes v_mod_items v_mod_least v_mod_most v_mod_hasPlan v_mod_told v_mod_pieces v_mod_planWorth v_mod_planCents) (fun v_mod_hasPlan_16 => (some (true, r_1, v_mod_hasPlan_16, (vp_updL (vp_updL v_mnea (Int32.toNatClampNeg ((6 * p1) + p2)) p3) (Int32.toNatClampNeg ((6 * p2) + p1)) p3)))))))))) else (if 0 < (2 : Int32) then (some (false, 2, v_mod_hasPlan, v_mnea)) else (if ((6 * p1) + p2) < 0 ∨ n_mnea ≤ Int32.toNatClampNeg ((6 * p1) + p2) then none else (if (lg_cmp (v_mnea (Int32.toNatClampNeg ((6 * p1) + p2))) p3) = 0 then (some (false, 2, v_mod_hasPlan, v_mnea)) else (if ((6 * p1) + p2) < 0 ∨ n_mnea ≤ Int32.toNatClampNeg ((6 * p1) + p2) then none else (if ((6 * p2) + p1) < 0 ∨ n_mnea ≤ Int32.toNatClampNeg ((6 * p2) + p1) then none else (Option.bind (f_Model_change N 2 v_mod_steps v_mod_pipes v_mod_items v_mod_least v_mod_most v_mod_hasPlan v_mod_told v_mod_pieces v_mod_planWorth v_mod_planCents) (fun v_mod_hasPlan_22 => (some (true, 2, v_mod_hasPlan_22, (vp_updL (vp_updL v_mnea (Int32.toNatClampNeg ((6 * p1) + p2)) p3) (Int32.toNatClampNeg ((6 * p2) + p1)) p3))))))))))))) else (if 0 < r_1 then (some (false, r_1, v_mod_hasPlan, v_mnea)) else (if ((6 * p1) + p2) < 0 ∨ n_mnea ≤ Int32.toNatClampNeg ((6 * p1) + p2) then none else (if (lg_cmp (v_mnea (Int32.toNatClampNeg ((6 * p1) + p2))) p3) = 0 then (some (false, r_1, v_mod_hasPlan, v_mnea)) else (if ((6 * p1) + p2) < 0 ∨ n_mnea ≤ Int32.toNatClampNeg ((6 * p1) + p2) then none else (if ((6 * p2) + p1) < 0 ∨ n_mnea ≤ Int32.toNatClampNeg ((6 * p2) + p1) then none else (Option.bind (f_Model_change N r_1 v_mod_steps v_mod_pipes v_mod_items v_mod_least v_mod_most v_mod_hasPlan v_mod_told v_mod_pieces v_mod_planWorth v_mod_planCents) (fun v_mod_hasPlan_8 => (some (true, r_1, v_mod_hasPlan_8, (vp_updL (vp_updL v_mnea (Int32.toNatClampNeg ((6 * p1) + p2)) p3) (Int32.toNatClampNeg ((6 * p2) + p1)) p3)))))))))))))
set_option maxRecDepth 100000 in
set_option maxHeartbeats 4000000 in
theorem c_Model_near (l : Launch) (D : va_G) (ad : Nat → Nat) (ki : Nat → ClassId) (n_mnea : Nat) (v_mod_code : Int32) (v_mod_steps : Int32) (v_mod_pipes : Int32) (v_mod_items : Int32) (v_mod_least : Int32) (v_mod_most : Int32) (v_mod_hasPlan : Bool) (v_mod_told : Int32) (v_mod_pieces : Int32) (v_mod_planWorth : Int64) (v_mod_planCents : Int64) (v_mnea : Nat → Int64) (p1 : Int32) (p2 : Int32) (p3 : Int64) (N : Nat) (sz : Nat) (r : Bool) (ov_mod_code : Int32) (ov_mod_hasPlan : Bool) (ov_mnea : Nat → Int64) (hf : f_Model_near N n_mnea v_mod_code v_mod_steps v_mod_pipes v_mod_items v_mod_least v_mod_most v_mod_hasPlan v_mod_told v_mod_pieces v_mod_planWorth v_mod_planCents v_mnea p1 p2 p3 = some (r, ov_mod_code, ov_mod_hasPlan, ov_mnea)) : Met l y_Model_near w_Model_near { frames := 2, cells := 0, slots := 0, locals := 43 } (q_PcM [.ref (ad 29), .int p1, .int p2, .long p3] D vwCl [(ad 29, .inr (8, [.int v_mod_code, .int v_mod_steps, .ref (ad 30), .int v_mod_pipes, .ref (ad 31), .int v_mod_items, .ref (ad 32), .ref (ad 33), .ref (ad 34), .ref (ad 35), .ref (ad 36), .ref (ad 37), .ref (ad 38), .int v_mod_least, .int v_mod_most, .ref (ad 39), .ref (ad 40), .ref (ad 41), .ref (ad 42), .ref (ad 43), .ref (ad 44), .int (bI v_mod_hasPlan), .int v_mod_told, .ref (ad 45), .int v_mod_pieces, .ref (ad 46), .ref (ad 47), .ref (ad 48), .long v_mod_planWorth, .long v_mod_planCents])), (ad 37, .inl (ki 1, n_mnea, .inr (.inl v_mnea)))] (TYS ki) sz) (q_Qm (some (.int (bI r))) D vwCl [(ad 29, .inr (8, [.int ov_mod_code, .int v_mod_steps, .ref (ad 30), .int v_mod_pipes, .ref (ad 31), .int v_mod_items, .ref (ad 32), .ref (ad 33), .ref (ad 34), .ref (ad 35), .ref (ad 36), .ref (ad 37), .ref (ad 38), .int v_mod_least, .int v_mod_most, .ref (ad 39), .ref (ad 40), .ref (ad 41), .ref (ad 42), .ref (ad 43), .ref (ad 44), .int (bI ov_mod_hasPlan), .int v_mod_told, .ref (ad 45), .int v_mod_pieces, .ref (ad 46), .ref (ad 47), .ref (ad 48), .long v_mod_planWorth, .long v_mod_planCents])), (ad 37, .inl (ki 1, n_mnea, .inr (.inl ov_mnea)))] (va_A [(ad 29, .inr (8, [.int v_mod_code, .int v_mod_steps, .ref (ad 30), .int v_mod_pipes, .ref (ad 31), .int v_mod_items, .ref (ad 32), .ref (ad 33), .ref (ad 34), .ref (ad 35), .ref (ad 36), .ref (ad 37), .ref (ad 38), .int v_mod_least, .int v_mod_most, .ref (ad 39), .ref (ad 40), .ref (ad 41), .ref (ad 42), .ref (ad 43), .ref (ad 44), .int (bI v_mod_hasPlan), .int v_mod_told, .ref (ad 45), .int v_mod_pieces, .ref (ad 46), .ref (ad 47), .ref (ad 48), .long v_mod_planWorth, .long v_mod_planCents])), (ad 37, .inl (ki 1, n_mnea, .inr (.inl v_mnea)))] sz)) 0 0 (va_A [(ad 29, .inr (8, [.int v_mod_code, .int v_mod_steps, .ref (ad 30), .int v_mod_pipes, .ref (ad 31), .int v_mod_items, .ref (ad 32), .ref (ad 33), .ref (ad 34), .ref (ad 35), .ref (ad 36), .ref (ad 37), .ref (ad 38), .int v_mod_least, .int v_mod_most, .ref (ad 39), .ref (ad 40), .ref (ad 41), .ref (ad 42), .ref (ad 43), .ref (ad 44), .int (bI v_mod_hasPlan), .int v_mod_told, .ref (ad 45), .int v_mod_pieces, .ref (ad 46), .ref (ad 47), .ref (ad 48), .long v_mod_planWorth, .long v_mod_planCents])), (ad 37, .inl (ki 1, n_mnea, .inr (.inl v_mnea)))] sz) := by
  refine Met.ofW (cc := b_Model_near) (maxL := 5) (ret := (some .boolean)) (by decide) rfl ?_
  intro p e s m args below meth c s₁ B hml hv
  obtain ⟨rfl, hsz, hP, hK, hD0, hE⟩ := hv
  have hx := B.exec
  have hb := B.bytes
  have hr := B.returns
  have hts := atoms_spec (ws := w_Model_near) B.pre
  have hown : s.vm.findClass R_Model = some m.cls := findClass_of_methodNamed B.named
  have hlocks := B.notSynchronized
  have hn_Model : ∀ w ∈ u_ws R_Model F_Model 30, w ∈ w_Model_near := (fun w h => List.mem_cons_of_mem _ (i_Model w h))
  have hL33 := hts (.fieldLink R_Model 33 "RoomFillsModel" "nears" "[J") (List.mem_cons_of_mem _ m_854)
  have hL76 := hts (.fieldLink R_Model 76 "RoomFillsModel" "code" "I") (List.mem_cons_of_mem _ m_843)
  have hL95 := hts (.constantLong R_Model 95 (100000)) (List.mem_cons_of_mem _ m_958)
  subst hsz
  have hD := hD0.self (sz := s.heap.size)
  generalize hAe : va_A [(ad 29, .inr (8, [.int v_mod_code, .int v_mod_steps, .ref (ad 30), .int v_mod_pipes, .ref (ad 31), .int v_mod_items, .ref (ad 32), .ref (ad 33), .ref (ad 34), .ref (ad 35), .ref (ad 36), .ref (ad 37), .ref (ad 38), .int v_mod_least, .int v_mod_most, .ref (ad 39), .ref (ad 40), .ref (ad 41), .ref (ad 42), .ref (ad 43), .ref (ad 44), .int (bI v_mod_hasPlan), .int v_mod_told, .ref (ad 45), .int v_mod_pieces, .ref (ad 46), .ref (ad 47), .ref (ad 48), .long v_mod_planWorth, .long v_mod_planCents])), (ad 37, .inl (ki 1, n_mnea, .inr (.inl v_mnea)))] s.heap.size = A at hD ⊢
  have hA : ∀ q : Nat, s.heap.size ≤ q → A q := fun q h => by rw [← hAe]; exact Or.inr h
  have hS : va_S A s.heap s.heap [] := va_S.rf
  replace hP : va_P D vwCl [(ad 29, .inr (8, [.int v_mod_code, .int v_mod_steps, .ref (ad 30), .int v_mod_pipes, .ref (ad 31), .int v_mod_items, .ref (ad 32), .ref (ad 33), .ref (ad 34), .ref (ad 35), .ref (ad 36), .ref (ad 37), .ref (ad 38), .int v_mod_least, .int v_mod_most, .ref (ad 39), .ref (ad 40), .ref (ad 41), .ref (ad 42), .ref (ad 43), .ref (ad 44), .int (bI v_mod_hasPlan), .int v_mod_told, .ref (ad 45), .int v_mod_pieces, .ref (ad 46), .ref (ad 47), .ref (ad 48), .long v_mod_planWorth, .long v_mod_planCents])), (ad 37, .inl (ki 1, n_mnea, .inr (.inl v_mnea)))] s.heap := hP
  have hl := lv_entry ([.ref (ad 29), .int p1, .int p2, .long p3]) (n := 5) (Nat.le_of_ble_eq_true rfl)
  rw [lg_entry_eq]
  generalize (lg_sl ([.ref (ad 29), .int p1, .int p2, .long p3]) ++ List.replicate (5 - (lg_sl ([.ref (ad 29), .int p1, .int p2, .long p3])).length) Slot.unset).toArray = ls at hl ⊢
  replace hl : lv_has ls 5 [(0, .ref (ad 29)), (1, .int p1), (2, .int p2), (3, .long p3)] := hl
  unfold f_Model_near at hf
  refine lv_aload_n hx hb d_Model_near_0 rfl (lv_at hl 0 rfl) ?_
  refine lv_aload_n hx hb d_Model_near_1 rfl (lv_at hl 0 rfl) ?_
  refine lv_iload_n hx hb d_Model_near_2 rfl (lv_at hl 1 rfl) ?_
  refine lv_iload_n hx hb d_Model_near_3 rfl (lv_at hl 2 rfl) ?_
  obtain ⟨r_1, hc_1, hf⟩ := q_mb hf
  refine q_pcall (W.runV (As := [.int p1, .int p2]) (rest := [.ref (ad 29)]) ⟨hx, hb, hml, hown, hts⟩ (c_Model_pairCode l D ad ki v_mod_code v_mod_steps v_mod_pipes v_mod_items v_mod_least v_mod_most v_mod_hasPlan v_mod_told v_mod_pieces v_mod_planWorth v_mod_planCents p1 p2 N r_1 hc_1) (cwV 2 hts (q_goodV ⟨m_973, m_975, m_33, m_64⟩ m_976) rfl rfl rfl (by decide +kernel) ⟨Nat.le_of_ble_eq_true rfl, Nat.le_of_ble_eq_true rfl⟩) (q_preVP (wc := [(ad 29, .inr (8, [.int v_mod_code, .int v_mod_steps, .ref (ad 30), .int v_mod_pipes, .ref (ad 31), .int v_mod_items, .ref (ad 32), .ref (ad 33), .ref (ad 34), .ref (ad 35), .ref (ad 36), .ref (ad 37), .ref (ad 38), .int v_mod_least, .int v_mod_most, .ref (ad 39), .ref (ad 40), .ref (ad 41), .ref (ad 42), .ref (ad 43), .ref (ad 44), .int (bI v_mod_hasPlan), .int v_mod_told, .ref (ad 45), .int v_mod_pieces, .ref (ad 46), .ref (ad 47), .ref (ad 48), .long v_mod_planWorth, .long v_mod_planCents]))]) hE hK hP [0] rfl 0 8 rfl rfl) rfl rfl hl.1 rfl (lv_room (Nat.le_of_ble_eq_true rfl)) d_Model_near_4 ⟨Nat.le_of_ble_eq_true rfl, Nat.le_of_ble_eq_true rfl⟩) ?_
  refine va_put (D := D) (ci := 8) (v := .int r_1) (ty := .int) (C := R_Model) (T := F_Model) (N := 30) hx hb hts hn_Model t_Model t_Model_ok n_Model hown hK hP hD hS 0 rfl rfl 0 (by decide) hL76 (fun _ h9 => h9) rfl (by decide +kernel) rfl rfl (Nat.le_of_ble_eq_true rfl) d_Model_near_7 (fun H locs hP hD hS => ?_)
  replace hP : va_P D vwCl [(ad 29, .inr (8, [.int r_1, .int v_mod_steps, .ref (ad 30), .int v_mod_pipes, .ref (ad 31), .int v_mod_items, .ref (ad 32), .ref (ad 33), .ref (ad 34), .ref (ad 35), .ref (ad 36), .ref (ad 37), .ref (ad 38), .int v_mod_least, .int v_mod_most, .ref (ad 39), .ref (ad 40), .ref (ad 41), .ref (ad 42), .ref (ad 43), .ref (ad 44), .int (bI v_mod_hasPlan), .int v_mod_told, .ref (ad 45), .int v_mod_pieces, .ref (ad 46), .ref (ad 47), .ref (ad 48), .long v_mod_planWorth, .long v_mod_planCents])), (ad 37, .inl (ki 1, n_mnea, .inr (.inl v_mnea)))] H := hP
  replace hD : va_D A [(ad 29, .inr (8, [.int r_1, .int v_mod_steps, .ref (ad 30), .int v_mod_pipes, .ref (ad 31), .int v_mod_items, .ref (ad 32), .ref (ad 33), .ref (ad 34), .ref (ad 35), .ref (ad 36), .ref (ad 37), .ref (ad 38), .int v_mod_least, .int v_mod_most, .ref (ad 39), .ref (ad 40), .ref (ad 41), .ref (ad 42), .ref (ad 43), .ref (ad 44), .int (bI v_mod_hasPlan), .int v_mod_told, .ref (ad 45), .int v_mod_pieces, .ref (ad 46), .ref (ad 47), .ref (ad 48), .long v_mod_planWorth, .long v_mod_planCents])), (ad 37, .inl (ki 1, n_mnea, .inr (.inl v_mnea)))] := hD
  refine lv_aload_n hx hb d_Model_near_10 rfl (lv_at hl 0 rfl) ?_
  refine lv_aload_n hx hb d_Model_near_11 rfl (lv_at hl 0 rfl) ?_
  refine va_get (D := D) (ci := 8) (v := .int r_1) (C := R_Model) (T := F_Model) (N := 30) hx hb hts hn_Model hown hK hP 0 rfl rfl 0 (by decide) hL76 (fun _ h9 => h9) rfl d_Model_near_12 ?_
  refine lv_if_ne (tgt := 33) hx hb d_Model_near_15 (by decide) (fun c_2 => ?_) (fun c_2 => ?_)
  · replace hf := q_ie hf c_2
    refine lv_aload_n hx hb d_Model_near_33 rfl (lv_at hl 0 rfl) ?_
    refine va_get (D := D) (ci := 8) (v := .int r_1) (C := R_Model) (T := F_Model) (N := 30) hx hb hts hn_Model hown hK hP 0 rfl rfl 0 (by decide) hL76 (fun _ h9 => h9) rfl d_Model_near_34 ?_
    refine va_put (D := D) (ci := 8) (v := .int r_1) (ty := .int) (C := R_Model) (T := F_Model) (N := 30) hx hb hts hn_Model t_Model t_Model_ok n_Model hown hK hP hD hS 0 rfl rfl 0 (by decide) hL76 (fun _ h9 => h9) rfl (by decide +kernel) rfl rfl (Nat.le_of_ble_eq_true rfl) d_Model_near_37 (fun H locs hP hD hS => ?_)
    replace hP : va_P D vwCl [(ad 29, .inr (8, [.int r_1, .int v_mod_steps, .ref (ad 30), .int v_mod_pipes, .ref (ad 31), .int v_mod_items, .ref (ad 32), .ref (ad 33), .ref (ad 34), .ref (ad 35), .ref (ad 36), .ref (ad 37), .ref (ad 38), .int v_mod_least, .int v_mod_most, .ref (ad 39), .ref (ad 40), .ref (ad 41), .ref (ad 42), .ref (ad 43), .ref (ad 44), .int (bI v_mod_hasPlan), .int v_mod_told, .ref (ad 45), .int v_mod_pieces, .ref (ad 46), .ref (ad 47), .ref (ad 48), .long v_mod_planWorth, .long v_mod_planCents])), (ad 37, .inl (ki 1, n_mnea, .inr (.inl v_mnea)))] H := hP
    replace hD : va_D A [(ad 29, .inr (8, [.int r_1, .int v_mod_steps, .ref (ad 30), .int v_mod_pipes, .ref (ad 31), .int v_mod_items, .ref (ad 32), .ref (ad 33), .ref (ad 34), .ref (ad 35), .ref (ad 36), .ref (ad 37), .ref (ad 38), .int v_mod_least, .int v_mod_most, .ref (ad 39), .ref (ad 40), .ref (ad 41), .ref (ad 42), .ref (ad 43), .ref (ad 44), .int (bI v_mod_hasPlan), .int v_mod_told, .ref (ad 45), .int v_mod_pieces, .ref (ad 46), .ref (ad 47), .ref (ad 48), .long v_mod_planWorth, .long v_mod_planCents])), (ad 37, .inl (ki 1, n_mnea, .inr (.inl v_mnea)))] := hD
    refine lv_aload_n hx hb d_Model_near_40 rfl (lv_at hl 0 rfl) ?_
    refine va_get (D := D) (ci := 8) (v := .int r_1) (C := R_Model) (T := F_Model) (N := 30) hx hb hts hn_Model hown hK hP 0 rfl rfl 0 (by decide) hL76 (fun _ h9 => h9) rfl d_Model_near_41 ?_
    refine lv_if_gt (tgt := 63) hx hb d_Model_near_44 (by decide) (fun c_3 => ?_) (fun c_3 => ?_)
    · replace hf := q_it hf c_3
      refine lv_iconst (v := 0) hx hb d_Model_near_63 (by decide) ?_
      cases hf
      exact W.zret (v := bI false) hx hb hr (bI_nar _) (fun t ht hW => ⟨rfl, by rw [ht]; exact hP, hS.F ht⟩) hS.2.2 d_Model_near_64
    replace hf := q_ie hf c_3
    refine lv_aload_n hx hb d_Model_near_47 rfl (lv_at hl 0 rfl) ?_
    refine va_get (D := D) (ci := 8) (v := .ref (ad 37)) (C := R_Model) (T := F_Model) (N := 30) hx hb hts hn_Model hown hK hP 0 rfl rfl 11 (by decide) hL33 (fun _ h9 => h9) rfl d_Model_near_48 ?_
    refine lv_bipush (v := 6) hx hb d_Model_near_51 (by decide) ?_
    refine lv_iload_n hx hb d_Model_near_53 rfl (lv_at hl 1 rfl) ?_
    refine lv_imul hx hb d_Model_near_54 ?_
    refine lv_iload_n hx hb d_Model_near_55 rfl (lv_at hl 2 rfl) ?_
    refine lv_iadd hx hb d_Model_near_56 ?_
    obtain ⟨hi_4, hf⟩ := q_ck hf
    refine va_lald hx hb hK hP 1 1 rfl rfl hi_4 d_Model_near_57 ?_
    refine lv_lload_n hx hb d_Model_near_58 rfl (lv_at hl 3 rfl) ?_
    refine W.lcmp hx hb d_Model_near_59 ?_
    refine lv_if_ne (tgt := 65) hx hb d_Model_near_60 (by decide) (fun c_5 => ?_) (fun c_5 => ?_)
    · replace hf := q_ie hf c_5
      refine lv_aload_n hx hb d_Model_near_65 rfl (lv_at hl 0 rfl) ?_
      refine va_get (D := D) (ci := 8) (v := .ref (ad 37)) (C := R_Model) (T := F_Model) (N := 30) hx hb hts hn_Model hown hK hP 0 rfl rfl 11 (by decide) hL33 (fun _ h9 => h9) rfl d_Model_near_66 ?_
      refine lv_bipush (v := 6) hx hb d_Model_near_69 (by decide) ?_
      refine lv_iload_n hx hb d_Model_near_71 rfl (lv_at hl 1 rfl) ?_
      refine lv_imul hx hb d_Model_near_72 ?_
      refine lv_iload_n hx hb d_Model_near_73 rfl (lv_at hl 2 rfl) ?_
      refine lv_iadd hx hb d_Model_near_74 ?_
      refine lv_lload_n hx hb d_Model_near_75 rfl (lv_at hl 3 rfl) ?_
      obtain ⟨hi_6, hf⟩ := q_ck hf
      refine va_last hx hb hK hP hD hS 1 1 rfl rfl hi_6 d_Model_near_76 (fun H locs hP hD hS => ?_)
      replace hP : va_P D vwCl [(ad 29, .inr (8, [.int r_1, .int v_mod_steps, .ref (ad 30), .int v_mod_pipes, .ref (ad 31), .int v_mod_items, .ref (ad 32), .ref (ad 33), .ref (ad 34), .ref (ad 35), .ref (ad 36), .ref (ad 37), .ref (ad 38), .int v_mod_least, .int v_mod_most, .ref (ad 39), .ref (ad 40), .ref (ad 41), .ref (ad 42), .ref (ad 43), .ref (ad 44), .int (bI v_mod_hasPlan), .int v_mod_told, .ref (ad 45), .int v_mod_pieces, .ref (ad 46), .ref (ad 47), .ref (ad 48), .long v_mod_planWorth, .long v_mod_planCents])), (ad 37, .inl (ki 1, n_mnea, .inr (.inl (vp_updL v_mnea (Int32.toNatClampNeg ((6 * p1) + p2)) p3))))] H := hP
      replace hD : va_D A [(ad 29, .inr (8, [.int r_1, .int v_mod_steps, .ref (ad 30), .int v_mod_pipes, .ref (ad 31), .int v_mod_items, .ref (ad 32), .ref (ad 33), .ref (ad 34), .ref (ad 35), .ref (ad 36), .ref (ad 37), .ref (ad 38), .int v_mod_least, .int v_mod_most, .ref (ad 39), .ref (ad 40), .ref (ad 41), .ref (ad 42), .ref (ad 43), .ref (ad 44), .int (bI v_mod_hasPlan), .int v_mod_told, .ref (ad 45), .int v_mod_pieces, .ref (ad 46), .ref (ad 47), .ref (ad 48), .long v_mod_planWorth, .long v_mod_planCents])), (ad 37, .inl (ki 1, n_mnea, .inr (.inl (vp_updL v_mnea (Int32.toNatClampNeg ((6 * p1) + p2)) p3))))] := hD
      refine lv_aload_n hx hb d_Model_near_77 rfl (lv_at hl 0 rfl) ?_
      refine va_get (D := D) (ci := 8) (v := .ref (ad 37)) (C := R_Model) (T := F_Model) (N := 30) hx hb hts hn_Model hown hK hP 0 rfl rfl 11 (by decide) hL33 (fun _ h9 => h9) rfl d_Model_near_78 ?_
      refine lv_bipush (v := 6) hx hb d_Model_near_81 (by decide) ?_
      refine lv_iload_n hx hb d_Model_near_83 rfl (lv_at hl 2 rfl) ?_
      refine lv_imul hx hb d_Model_near_84 ?_
      refine lv_iload_n hx hb d_Model_near_85 rfl (lv_at hl 1 rfl) ?_
      refine lv_iadd hx hb d_Model_near_86 ?_
      refine lv_lload_n hx hb d_Model_near_87 rfl (lv_at hl 3 rfl) ?_
      obtain ⟨hi_7, hf⟩ := q_ck hf
      refine va_last hx hb hK hP hD hS 1 1 rfl rfl hi_7 d_Model_near_88 (fun H locs hP hD hS => ?_)
      replace hP : va_P D vwCl [(ad 29, .inr (8, [.int r_1, .int v_mod_steps, .ref (ad 30), .int v_mod_pipes, .ref (ad 31), .int v_mod_items, .ref (ad 32), .ref (ad 33), .ref (ad 34), .ref (ad 35), .ref (ad 36), .ref (ad 37), .ref (ad 38), .int v_mod_least, .int v_mod_most, .ref (ad 39), .ref (ad 40), .ref (ad 41), .ref (ad 42), .ref (ad 43), .ref (ad 44), .int (bI v_mod_hasPlan), .int v_mod_told, .ref (ad 45), .int v_mod_pieces, .ref (ad 46), .ref (ad 47), .ref (ad 48), .long v_mod_planWorth, .long v_mod_planCents])), (ad 37, .inl (ki 1, n_mnea, .inr (.inl (vp_updL (vp_updL v_mnea (Int32.toNatClampNeg ((6 * p1) + p2)) p3) (Int32.toNatClampNeg ((6 * p2) + p1)) p3))))] H := hP
      replace hD : va_D A [(ad 29, .inr (8, [.int r_1, .int v_mod_steps, .ref (ad 30), .int v_mod_pipes, .ref (ad 31), .int v_mod_items, .ref (ad 32), .ref (ad 33), .ref (ad 34), .ref (ad 35), .ref (ad 36), .ref (ad 37), .ref (ad 38), .int v_mod_least, .int v_mod_most, .ref (ad 39), .ref (ad 40), .ref (ad 41), .ref (ad 42), .ref (ad 43), .ref (ad 44), .int (bI v_mod_hasPlan), .int v_mod_told, .ref (ad 45), .int v_mod_pieces, .ref (ad 46), .ref (ad 47), .ref (ad 48), .long v_mod_planWorth, .long v_mod_planCents])), (ad 37, .inl (ki 1, n_mnea, .inr (.inl (vp_updL (vp_updL v_mnea (Int32.toNatClampNeg ((6 * p1) + p2)) p3) (Int32.toNatClampNeg ((6 * p2) + p1)) p3))))] := hD
      refine lv_aload_n hx hb d_Model_near_89 rfl (lv_at hl 0 rfl) ?_
      obtain ⟨v_mod_hasPlan_8, hc_8, hf⟩ := q_mb hf
      have hC_8 : ([0] : List Nat).map (fun i => ([(ad 29, .inr (8, [.int r_1, .int v_mod_steps, .ref (ad 30), .int v_mod_pipes, .ref (ad 31), .int v_mod_items, .ref (ad 32), .ref (ad 33), .ref (ad 34), .ref (ad 35), .ref (ad 36), .ref (ad 37), .ref (ad 38), .int v_mod_least, .int v_mod_most, .ref (ad 39), .ref (ad 40), .ref (ad 41), .ref (ad 42), .ref (ad 43), .ref (ad 44), .int (bI v_mod_hasPlan), .int v_mod_told, .ref (ad 45), .int v_mod_pieces, .ref (ad 46), .ref (ad 47), .ref (ad 48), .long v_mod_planWorth, .long v_mod_planCents])), (ad 37, .inl (ki 1, n_mnea, .inr (.inl (vp_updL (vp_updL v_mnea (Int32.toNatClampNeg ((6 * p1) + p2)) p3) (Int32.toNatClampNeg ((6 * p2) + p1)) p3))))] : va_W)[i]?) = ([(ad 29, .inr (8, [.int r_1, .int v_mod_steps, .ref (ad 30), .int v_mod_pipes, .ref (ad 31), .int v_mod_items, .ref (ad 32), .ref (ad 33), .ref (ad 34), .ref (ad 35), .ref (ad 36), .ref (ad 37), .ref (ad 38), .int v_mod_least, .int v_mod_most, .ref (ad 39), .ref (ad 40), .ref (ad 41), .ref (ad 42), .ref (ad 43), .ref (ad 44), .int (bI v_mod_hasPlan), .int v_mod_told, .ref (ad 45), .int v_mod_pieces, .ref (ad 46), .ref (ad 47), .ref (ad 48), .long v_mod_planWorth, .long v_mod_planCents]))] : va_W).map some := rfl
      refine q_mcall3 (w1 := [(ad 29, .inr (8, [.int r_1, .int v_mod_steps, .ref (ad 30), .int v_mod_pipes, .ref (ad 31), .int v_mod_items, .ref (ad 32), .ref (ad 33), .ref (ad 34), .ref (ad 35), .ref (ad 36), .ref (ad 37), .ref (ad 38), .int v_mod_least, .int v_mod_most, .ref (ad 39), .ref (ad 40), .ref (ad 41), .ref (ad 42), .ref (ad 43), .ref (ad 44), .int (bI v_mod_hasPlan_8), .int v_mod_told, .ref (ad 45), .int v_mod_pieces, .ref (ad 46), .ref (ad 47), .ref (ad 48), .long v_mod_planWorth, .long v_mod_planCents]))]) (ws' := [(ad 29, .inr (8, [.int r_1, .int v_mod_steps, .ref (ad 30), .int v_mod_pipes, .ref (ad 31), .int v_mod_items, .ref (ad 32), .ref (ad 33), .ref (ad 34), .ref (ad 35), .ref (ad 36), .ref (ad 37), .ref (ad 38), .int v_mod_least, .int v_mod_most, .ref (ad 39), .ref (ad 40), .ref (ad 41), .ref (ad 42), .ref (ad 43), .ref (ad 44), .int (bI v_mod_hasPlan_8), .int v_mod_told, .ref (ad 45), .int v_mod_pieces, .ref (ad 46), .ref (ad 47), .ref (ad 48), .long v_mod_planWorth, .long v_mod_planCents])), (ad 37, .inl (ki 1, n_mnea, .inr (.inl (vp_updL (vp_updL v_mnea (Int32.toNatClampNeg ((6 * p1) + p2)) p3) (Int32.toNatClampNeg ((6 * p2) + p1)) p3))))]) (wc := [(ad 29, .inr (8, [.int r_1, .int v_mod_steps, .ref (ad 30), .int v_mod_pipes, .ref (ad 31), .int v_mod_items, .ref (ad 32), .ref (ad 33), .ref (ad 34), .ref (ad 35), .ref (ad 36), .ref (ad 37), .ref (ad 38), .int v_mod_least, .int v_mod_most, .ref (ad 39), .ref (ad 40), .ref (ad 41), .ref (ad 42), .ref (ad 43), .ref (ad 44), .int (bI v_mod_hasPlan), .int v_mod_told, .ref (ad 45), .int v_mod_pieces, .ref (ad 46), .ref (ad 47), .ref (ad 48), .long v_mod_planWorth, .long v_mod_planCents]))]) (va_runV (As := []) (rest := []) ⟨hx, hb, hml, hown, hts⟩ (c_Model_change l D ad ki r_1 v_mod_steps v_mod_pipes v_mod_items v_mod_least v_mod_most v_mod_hasPlan v_mod_told v_mod_pieces v_mod_planWorth v_mod_planCents N _ v_mod_hasPlan_8 hc_8) (cwV 0 hts (q_goodV ⟨m_942, m_944, m_31, m_64⟩ m_945) rfl rfl rfl (by decide +kernel) ⟨Nat.le_of_ble_eq_true rfl, Nat.le_of_ble_eq_true rfl⟩) (q_preVM3 hE hK hP hD (by decide +kernel) hC_8 0 8 rfl rfl) rfl rfl hl.1 rfl (lv_room (Nat.le_of_ble_eq_true rfl)) d_Model_near_90 ⟨Nat.le_of_ble_eq_true rfl, Nat.le_of_ble_eq_true rfl⟩) hP hD hS hA hC_8 [ad 29, ad 37] rfl rfl (fun H1 h1 hk => (q_c (h1 0 _ rfl) (q_c (hk 1 _ rfl (by decide)) q_n))) rfl (fun H locs hP hD hS => ?_)
      refine lv_iconst (v := 1) hx hb d_Model_near_93 (by decide) ?_
      cases hf
      exact W.zret (v := bI true) hx hb hr (bI_nar _) (fun t ht hW => ⟨rfl, by rw [ht]; exact hP, hS.F ht⟩) hS.2.2 d_Model_near_94
    replace hf := q_it hf c_5
    refine lv_iconst (v := 0) hx hb d_Model_near_63 (by decide) ?_
    cases hf
    exact W.zret (v := bI false) hx hb hr (bI_nar _) (fun t ht hW => ⟨rfl, by rw [ht]; exact hP, hS.F ht⟩) hS.2.2 d_Model_near_64
  replace hf := q_it hf c_2
  refine lv_lload_n hx hb d_Model_near_18 rfl (lv_at hl 3 rfl) ?_
  refine lv_lconst (v := 0) hx hb d_Model_near_19 (by decide) ?_
  refine lv_ldc2 (v := 100000) hx hb hown hL95 d_Model_near_20 ?_
  obtain ⟨r_9, hc_9, hf⟩ := q_mb hf
  refine q_pcall (W.runS (As := [.long p3, .long 0, .long 100000]) (rest := [.ref (ad 29)]) ⟨hx, hb, hml, hown, hts⟩ (c_Model_isIn l D ad ki p3 0 100000 N r_9 hc_9) (va_cwS 3 hts (q_goodS ⟨m_955, m_956, m_64⟩ m_957) rfl rfl rfl (by decide +kernel) ⟨Nat.le_of_ble_eq_true rfl, Nat.le_of_ble_eq_true rfl⟩) (q_preSP (wc := []) hE hK hP [] rfl) rfl rfl hl.1 rfl (lv_room (Nat.le_of_ble_eq_true rfl)) d_Model_near_23 ⟨Nat.le_of_ble_eq_true rfl, Nat.le_of_ble_eq_true rfl⟩) ?_
  refine zv_ne (tgt := 33) hx hb d_Model_near_26 (by decide) (fun c_10 => ?_) (fun c_10 => ?_)
  · replace hf := q_it hf c_10
    refine lv_aload_n hx hb d_Model_near_33 rfl (lv_at hl 0 rfl) ?_
    refine va_get (D := D) (ci := 8) (v := .int r_1) (C := R_Model) (T := F_Model) (N := 30) hx hb hts hn_Model hown hK hP 0 rfl rfl 0 (by decide) hL76 (fun _ h9 => h9) rfl d_Model_near_34 ?_
    refine va_put (D := D) (ci := 8) (v := .int r_1) (ty := .int) (C := R_Model) (T := F_Model) (N := 30) hx hb hts hn_Model t_Model t_Model_ok n_Model hown hK hP hD hS 0 rfl rfl 0 (by decide) hL76 (fun _ h9 => h9) rfl (by decide +kernel) rfl rfl (Nat.le_of_ble_eq_true rfl) d_Model_near_37 (fun H locs hP hD hS => ?_)
    replace hP : va_P D vwCl [(ad 29, .inr (8, [.int r_1, .int v_mod_steps, .ref (ad 30), .int v_mod_pipes, .ref (ad 31), .int v_mod_items, .ref (ad 32), .ref (ad 33), .ref (ad 34), .ref (ad 35), .ref (ad 36), .ref (ad 37), .ref (ad 38), .int v_mod_least, .int v_mod_most, .ref (ad 39), .ref (ad 40), .ref (ad 41), .ref (ad 42), .ref (ad 43), .ref (ad 44), .int (bI v_mod_hasPlan), .int v_mod_told, .ref (ad 45), .int v_mod_pieces, .ref (ad 46), .ref (ad 47), .ref (ad 48), .long v_mod_planWorth, .long v_mod_planCents])), (ad 37, .inl (ki 1, n_mnea, .inr (.inl v_mnea)))] H := hP
    replace hD : va_D A [(ad 29, .inr (8, [.int r_1, .int v_mod_steps, .ref (ad 30), .int v_mod_pipes, .ref (ad 31), .int v_mod_items, .ref (ad 32), .ref (ad 33), .ref (ad 34), .ref (ad 35), .ref (ad 36), .ref (ad 37), .ref (ad 38), .int v_mod_least, .int v_mod_most, .ref (ad 39), .ref (ad 40), .ref (ad 41), .ref (ad 42), .ref (ad 43), .ref (ad 44), .int (bI v_mod_hasPlan), .int v_mod_told, .ref (ad 45), .int v_mod_pieces, .ref (ad 46), .ref (ad 47), .ref (ad 48), .long v_mod_planWorth, .long v_mod_planCents])), (ad 37, .inl (ki 1, n_mnea, .inr (.inl v_mnea)))] := hD
    refine lv_aload_n hx hb d_Model_near_40 rfl (lv_at hl 0 rfl) ?_
    refine va_get (D := D) (ci := 8) (v := .int r_1) (C := R_Model) (T := F_Model) (N := 30) hx hb hts hn_Model hown hK hP 0 rfl rfl 0 (by decide) hL76 (fun _ h9 => h9) rfl d_Model_near_41 ?_
    refine lv_if_gt (tgt := 63) hx hb d_Model_near_44 (by decide) (fun c_11 => ?_) (fun c_11 => ?_)
    · replace hf := q_it hf c_11
      refine lv_iconst (v := 0) hx hb d_Model_near_63 (by decide) ?_
      cases hf
      exact W.zret (v := bI false) hx hb hr (bI_nar _) (fun t ht hW => ⟨rfl, by rw [ht]; exact hP, hS.F ht⟩) hS.2.2 d_Model_near_64
    replace hf := q_ie hf c_11
    refine lv_aload_n hx hb d_Model_near_47 rfl (lv_at hl 0 rfl) ?_
    refine va_get (D := D) (ci := 8) (v := .ref (ad 37)) (C := R_Model) (T := F_Model) (N := 30) hx hb hts hn_Model hown hK hP 0 rfl rfl 11 (by decide) hL33 (fun _ h9 => h9) rfl d_Model_near_48 ?_
    refine lv_bipush (v := 6) hx hb d_Model_near_51 (by decide) ?_
    refine lv_iload_n hx hb d_Model_near_53 rfl (lv_at hl 1 rfl) ?_
    refine lv_imul hx hb d_Model_near_54 ?_
    refine lv_iload_n hx hb d_Model_near_55 rfl (lv_at hl 2 rfl) ?_
    refine lv_iadd hx hb d_Model_near_56 ?_
    obtain ⟨hi_12, hf⟩ := q_ck hf
    refine va_lald hx hb hK hP 1 1 rfl rfl hi_12 d_Model_near_57 ?_
    refine lv_lload_n hx hb d_Model_near_58 rfl (lv_at hl 3 rfl) ?_
    refine W.lcmp hx hb d_Model_near_59 ?_
    refine lv_if_ne (tgt := 65) hx hb d_Model_near_60 (by decide) (fun c_13 => ?_) (fun c_13 => ?_)
    · replace hf := q_ie hf c_13
      refine lv_aload_n hx hb d_Model_near_65 rfl (lv_at hl 0 rfl) ?_
      refine va_get (D := D) (ci := 8) (v := .ref (ad 37)) (C := R_Model) (T := F_Model) (N := 30) hx hb hts hn_Model hown hK hP 0 rfl rfl 11 (by decide) hL33 (fun _ h9 => h9) rfl d_Model_near_66 ?_
      refine lv_bipush (v := 6) hx hb d_Model_near_69 (by decide) ?_
      refine lv_iload_n hx hb d_Model_near_71 rfl (lv_at hl 1 rfl) ?_
      refine lv_imul hx hb d_Model_near_72 ?_
      refine lv_iload_n hx hb d_Model_near_73 rfl (lv_at hl 2 rfl) ?_
      refine lv_iadd hx hb d_Model_near_74 ?_
      refine lv_lload_n hx hb d_Model_near_75 rfl (lv_at hl 3 rfl) ?_
      obtain ⟨hi_14, hf⟩ := q_ck hf
      refine va_last hx hb hK hP hD hS 1 1 rfl rfl hi_14 d_Model_near_76 (fun H locs hP hD hS => ?_)
      replace hP : va_P D vwCl [(ad 29, .inr (8, [.int r_1, .int v_mod_steps, .ref (ad 30), .int v_mod_pipes, .ref (ad 31), .int v_mod_items, .ref (ad 32), .ref (ad 33), .ref (ad 34), .ref (ad 35), .ref (ad 36), .ref (ad 37), .ref (ad 38), .int v_mod_least, .int v_mod_most, .ref (ad 39), .ref (ad 40), .ref (ad 41), .ref (ad 42), .ref (ad 43), .ref (ad 44), .int (bI v_mod_hasPlan), .int v_mod_told, .ref (ad 45), .int v_mod_pieces, .ref (ad 46), .ref (ad 47), .ref (ad 48), .long v_mod_planWorth, .long v_mod_planCents])), (ad 37, .inl (ki 1, n_mnea, .inr (.inl (vp_updL v_mnea (Int32.toNatClampNeg ((6 * p1) + p2)) p3))))] H := hP
      replace hD : va_D A [(ad 29, .inr (8, [.int r_1, .int v_mod_steps, .ref (ad 30), .int v_mod_pipes, .ref (ad 31), .int v_mod_items, .ref (ad 32), .ref (ad 33), .ref (ad 34), .ref (ad 35), .ref (ad 36), .ref (ad 37), .ref (ad 38), .int v_mod_least, .int v_mod_most, .ref (ad 39), .ref (ad 40), .ref (ad 41), .ref (ad 42), .ref (ad 43), .ref (ad 44), .int (bI v_mod_hasPlan), .int v_mod_told, .ref (ad 45), .int v_mod_pieces, .ref (ad 46), .ref (ad 47), .ref (ad 48), .long v_mod_planWorth, .long v_mod_planCents])), (ad 37, .inl (ki 1, n_mnea, .inr (.inl (vp_updL v_mnea (Int32.toNatClampNeg ((6 * p1) + p2)) p3))))] := hD
      refine lv_aload_n hx hb d_Model_near_77 rfl (lv_at hl 0 rfl) ?_
      refine va_get (D := D) (ci := 8) (v := .ref (ad 37)) (C := R_Model) (T := F_Model) (N := 30) hx hb hts hn_Model hown hK hP 0 rfl rfl 11 (by decide) hL33 (fun _ h9 => h9) rfl d_Model_near_78 ?_
      refine lv_bipush (v := 6) hx hb d_Model_near_81 (by decide) ?_
      refine lv_iload_n hx hb d_Model_near_83 rfl (lv_at hl 2 rfl) ?_
      refine lv_imul hx hb d_Model_near_84 ?_
      refine lv_iload_n hx hb d_Model_near_85 rfl (lv_at hl 1 rfl) ?_
      refine lv_iadd hx hb d_Model_near_86 ?_
      refine lv_lload_n hx hb d_Model_near_87 rfl (lv_at hl 3 rfl) ?_
      obtain ⟨hi_15, hf⟩ := q_ck hf
      refine va_last hx hb hK hP hD hS 1 1 rfl rfl hi_15 d_Model_near_88 (fun H locs hP hD hS => ?_)
      replace hP : va_P D vwCl [(ad 29, .inr (8, [.int r_1, .int v_mod_steps, .ref (ad 30), .int v_mod_pipes, .ref (ad 31), .int v_mod_items, .ref (ad 32), .ref (ad 33), .ref (ad 34), .ref (ad 35), .ref (ad 36), .ref (ad 37), .ref (ad 38), .int v_mod_least, .int v_mod_most, .ref (ad 39), .ref (ad 40), .ref (ad 41), .ref (ad 42), .ref (ad 43), .ref (ad 44), .int (bI v_mod_hasPlan), .int v_mod_told, .ref (ad 45), .int v_mod_pieces, .ref (ad 46), .ref (ad 47), .ref (ad 48), .long v_mod_planWorth, .long v_mod_planCents])), (ad 37, .inl (ki 1, n_mnea, .inr (.inl (vp_updL (vp_updL v_mnea (Int32.toNatClampNeg ((6 * p1) + p2)) p3) (Int32.toNatClampNeg ((6 * p2) + p1)) p3))))] H := hP
      replace hD : va_D A [(ad 29, .inr (8, [.int r_1, .int v_mod_steps, .ref (ad 30), .int v_mod_pipes, .ref (ad 31), .int v_mod_items, .ref (ad 32), .ref (ad 33), .ref (ad 34), .ref (ad 35), .ref (ad 36), .ref (ad 37), .ref (ad 38), .int v_mod_least, .int v_mod_most, .ref (ad 39), .ref (ad 40), .ref (ad 41), .ref (ad 42), .ref (ad 43), .ref (ad 44), .int (bI v_mod_hasPlan), .int v_mod_told, .ref (ad 45), .int v_mod_pieces, .ref (ad 46), .ref (ad 47), .ref (ad 48), .long v_mod_planWorth, .long v_mod_planCents])), (ad 37, .inl (ki 1, n_mnea, .inr (.inl (vp_updL (vp_updL v_mnea (Int32.toNatClampNeg ((6 * p1) + p2)) p3) (Int32.toNatClampNeg ((6 * p2) + p1)) p3))))] := hD
      refine lv_aload_n hx hb d_Model_near_89 rfl (lv_at hl 0 rfl) ?_
      obtain ⟨v_mod_hasPlan_16, hc_16, hf⟩ := q_mb hf
      have hC_16 : ([0] : List Nat).map (fun i => ([(ad 29, .inr (8, [.int r_1, .int v_mod_steps, .ref (ad 30), .int v_mod_pipes, .ref (ad 31), .int v_mod_items, .ref (ad 32), .ref (ad 33), .ref (ad 34), .ref (ad 35), .ref (ad 36), .ref (ad 37), .ref (ad 38), .int v_mod_least, .int v_mod_most, .ref (ad 39), .ref (ad 40), .ref (ad 41), .ref (ad 42), .ref (ad 43), .ref (ad 44), .int (bI v_mod_hasPlan), .int v_mod_told, .ref (ad 45), .int v_mod_pieces, .ref (ad 46), .ref (ad 47), .ref (ad 48), .long v_mod_planWorth, .long v_mod_planCents])), (ad 37, .inl (ki 1, n_mnea, .inr (.inl (vp_updL (vp_updL v_mnea (Int32.toNatClampNeg ((6 * p1) + p2)) p3) (Int32.toNatClampNeg ((6 * p2) + p1)) p3))))] : va_W)[i]?) = ([(ad 29, .inr (8, [.int r_1, .int v_mod_steps, .ref (ad 30), .int v_mod_pipes, .ref (ad 31), .int v_mod_items, .ref (ad 32), .ref (ad 33), .ref (ad 34), .ref (ad 35), .ref (ad 36), .ref (ad 37), .ref (ad 38), .int v_mod_least, .int v_mod_most, .ref (ad 39), .ref (ad 40), .ref (ad 41), .ref (ad 42), .ref (ad 43), .ref (ad 44), .int (bI v_mod_hasPlan), .int v_mod_told, .ref (ad 45), .int v_mod_pieces, .ref (ad 46), .ref (ad 47), .ref (ad 48), .long v_mod_planWorth, .long v_mod_planCents]))] : va_W).map some := rfl
      refine q_mcall3 (w1 := [(ad 29, .inr (8, [.int r_1, .int v_mod_steps, .ref (ad 30), .int v_mod_pipes, .ref (ad 31), .int v_mod_items, .ref (ad 32), .ref (ad 33), .ref (ad 34), .ref (ad 35), .ref (ad 36), .ref (ad 37), .ref (ad 38), .int v_mod_least, .int v_mod_most, .ref (ad 39), .ref (ad 40), .ref (ad 41), .ref (ad 42), .ref (ad 43), .ref (ad 44), .int (bI v_mod_hasPlan_16), .int v_mod_told, .ref (ad 45), .int v_mod_pieces, .ref (ad 46), .ref (ad 47), .ref (ad 48), .long v_mod_planWorth, .long v_mod_planCents]))]) (ws' := [(ad 29, .inr (8, [.int r_1, .int v_mod_steps, .ref (ad 30), .int v_mod_pipes, .ref (ad 31), .int v_mod_items, .ref (ad 32), .ref (ad 33), .ref (ad 34), .ref (ad 35), .ref (ad 36), .ref (ad 37), .ref (ad 38), .int v_mod_least, .int v_mod_most, .ref (ad 39), .ref (ad 40), .ref (ad 41), .ref (ad 42), .ref (ad 43), .ref (ad 44), .int (bI v_mod_hasPlan_16), .int v_mod_told, .ref (ad 45), .int v_mod_pieces, .ref (ad 46), .ref (ad 47), .ref (ad 48), .long v_mod_planWorth, .long v_mod_planCents])), (ad 37, .inl (ki 1, n_mnea, .inr (.inl (vp_updL (vp_updL v_mnea (Int32.toNatClampNeg ((6 * p1) + p2)) p3) (Int32.toNatClampNeg ((6 * p2) + p1)) p3))))]) (wc := [(ad 29, .inr (8, [.int r_1, .int v_mod_steps, .ref (ad 30), .int v_mod_pipes, .ref (ad 31), .int v_mod_items, .ref (ad 32), .ref (ad 33), .ref (ad 34), .ref (ad 35), .ref (ad 36), .ref (ad 37), .ref (ad 38), .int v_mod_least, .int v_mod_most, .ref (ad 39), .ref (ad 40), .ref (ad 41), .ref (ad 42), .ref (ad 43), .ref (ad 44), .int (bI v_mod_hasPlan), .int v_mod_told, .ref (ad 45), .int v_mod_pieces, .ref (ad 46), .ref (ad 47), .ref (ad 48), .long v_mod_planWorth, .long v_mod_planCents]))]) (va_runV (As := []) (rest := []) ⟨hx, hb, hml, hown, hts⟩ (c_Model_change l D ad ki r_1 v_mod_steps v_mod_pipes v_mod_items v_mod_least v_mod_most v_mod_hasPlan v_mod_told v_mod_pieces v_mod_planWorth v_mod_planCents N _ v_mod_hasPlan_16 hc_16) (cwV 0 hts (q_goodV ⟨m_942, m_944, m_31, m_64⟩ m_945) rfl rfl rfl (by decide +kernel) ⟨Nat.le_of_ble_eq_true rfl, Nat.le_of_ble_eq_true rfl⟩) (q_preVM3 hE hK hP hD (by decide +kernel) hC_16 0 8 rfl rfl) rfl rfl hl.1 rfl (lv_room (Nat.le_of_ble_eq_true rfl)) d_Model_near_90 ⟨Nat.le_of_ble_eq_true rfl, Nat.le_of_ble_eq_true rfl⟩) hP hD hS hA hC_16 [ad 29, ad 37] rfl rfl (fun H1 h1 hk => (q_c (h1 0 _ rfl) (q_c (hk 1 _ rfl (by decide)) q_n))) rfl (fun H locs hP hD hS => ?_)
      refine lv_iconst (v := 1) hx hb d_Model_near_93 (by decide) ?_
      cases hf
      exact W.zret (v := bI true) hx hb hr (bI_nar _) (fun t ht hW => ⟨rfl, by rw [ht]; exact hP, hS.F ht⟩) hS.2.2 d_Model_near_94
    replace hf := q_it hf c_13
    refine lv_iconst (v := 0) hx hb d_Model_near_63 (by decide) ?_
    cases hf
    exact W.zret (v := bI false) hx hb hr (bI_nar _) (fun t ht hW => ⟨rfl, by rw [ht]; exact hP, hS.F ht⟩) hS.2.2 d_Model_near_64
  replace hf := q_ie hf c_10
  refine lv_iconst (v := 2) hx hb d_Model_near_29 (by decide) ?_
  refine lv_goto (tgt := 37) hx hb d_Model_near_30 (by decide) ?_
  refine va_put (D := D) (ci := 8) (v := .int 2) (ty := .int) (C := R_Model) (T := F_Model) (N := 30) hx hb hts hn_Model t_Model t_Model_ok n_Model hown hK hP hD hS 0 rfl rfl 0 (by decide) hL76 (fun _ h9 => h9) rfl (by decide +kernel) rfl rfl (Nat.le_of_ble_eq_true rfl) d_Model_near_37 (fun H locs hP hD hS => ?_)
  replace hP : va_P D vwCl [(ad 29, .inr (8, [.int 2, .int v_mod_steps, .ref (ad 30), .int v_mod_pipes, .ref (ad 31), .int v_mod_items, .ref (ad 32), .ref (ad 33), .ref (ad 34), .ref (ad 35), .ref (ad 36), .ref (ad 37), .ref (ad 38), .int v_mod_least, .int v_mod_most, .ref (ad 39), .ref (ad 40), .ref (ad 41), .ref (ad 42), .ref (ad 43), .ref (ad 44), .int (bI v_mod_hasPlan), .int v_mod_told, .ref (ad 45), .int v_mod_pieces, .ref (ad 46), .ref (ad 47), .ref (ad 48), .long v_mod_planWorth, .long v_mod_planCents])), (ad 37, .inl (ki 1, n_mnea, .inr (.inl v_mnea)))] H := hP
  replace hD : va_D A [(ad 29, .inr (8, [.int 2, .int v_mod_steps, .ref (ad 30), .int v_mod_pipes, .ref (ad 31), .int v_mod_items, .ref (ad 32), .ref (ad 33), .ref (ad 34), .ref (ad 35), .ref (ad 36), .ref (ad 37), .ref (ad 38), .int v_mod_least, .int v_mod_most, .ref (ad 39), .ref (ad 40), .ref (ad 41), .ref (ad 42), .ref (ad 43), .ref (ad 44), .int (bI v_mod_hasPlan), .int v_mod_told, .ref (ad 45), .int v_mod_pieces, .ref (ad 46), .ref (ad 47), .ref (ad 48), .long v_mod_planWorth, .long v_mod_planCents])), (ad 37, .inl (ki 1, n_mnea, .inr (.inl v_mnea)))] := hD
  refine lv_aload_n hx hb d_Model_near_40 rfl (lv_at hl 0 rfl) ?_
  refine va_get (D := D) (ci := 8) (v := .int 2) (C := R_Model) (T := F_Model) (N := 30) hx hb hts hn_Model hown hK hP 0 rfl rfl 0 (by decide) hL76 (fun _ h9 => h9) rfl d_Model_near_41 ?_
  refine lv_if_gt (tgt := 63) hx hb d_Model_near_44 (by decide) (fun c_17 => ?_) (fun c_17 => ?_)
  · replace hf := q_it hf c_17
    refine lv_iconst (v := 0) hx hb d_Model_near_63 (by decide) ?_
    cases hf
    exact W.zret (v := bI false) hx hb hr (bI_nar _) (fun t ht hW => ⟨rfl, by rw [ht]; exact hP, hS.F ht⟩) hS.2.2 d_Model_near_64
  replace hf := q_ie hf c_17
  refine lv_aload_n hx hb d_Model_near_47 rfl (lv_at hl 0 rfl) ?_
  refine va_get (D := D) (ci := 8) (v := .ref (ad 37)) (C := R_Model) (T := F_Model) (N := 30) hx hb hts hn_Model hown hK hP 0 rfl rfl 11 (by decide) hL33 (fun _ h9 => h9) rfl d_Model_near_48 ?_
  refine lv_bipush (v := 6) hx hb d_Model_near_51 (by decide) ?_
  refine lv_iload_n hx hb d_Model_near_53 rfl (lv_at hl 1 rfl) ?_
  refine lv_imul hx hb d_Model_near_54 ?_
  refine lv_iload_n hx hb d_Model_near_55 rfl (lv_at hl 2 rfl) ?_
  refine lv_iadd hx hb d_Model_near_56 ?_
  obtain ⟨hi_18, hf⟩ := q_ck hf
  refine va_lald hx hb hK hP 1 1 rfl rfl hi_18 d_Model_near_57 ?_
  refine lv_lload_n hx hb d_Model_near_58 rfl (lv_at hl 3 rfl) ?_
  refine W.lcmp hx hb d_Model_near_59 ?_
  refine lv_if_ne (tgt := 65) hx hb d_Model_near_60 (by decide) (fun c_19 => ?_) (fun c_19 => ?_)
  · replace hf := q_ie hf c_19
    refine lv_aload_n hx hb d_Model_near_65 rfl (lv_at hl 0 rfl) ?_
    refine va_get (D := D) (ci := 8) (v := .ref (ad 37)) (C := R_Model) (T := F_Model) (N := 30) hx hb hts hn_Model hown hK hP 0 rfl rfl 11 (by decide) hL33 (fun _ h9 => h9) rfl d_Model_near_66 ?_
    refine lv_bipush (v := 6) hx hb d_Model_near_69 (by decide) ?_
    refine lv_iload_n hx hb d_Model_near_71 rfl (lv_at hl 1 rfl) ?_
    refine lv_imul hx hb d_Model_near_72 ?_
    refine lv_iload_n hx hb d_Model_near_73 rfl (lv_at hl 2 rfl) ?_
    refine lv_iadd hx hb d_Model_near_74 ?_
    refine lv_lload_n hx hb d_Model_near_75 rfl (lv_at hl 3 rfl) ?_
    obtain ⟨hi_20, hf⟩ := q_ck hf
    refine va_last hx hb hK hP hD hS 1 1 rfl rfl hi_20 d_Model_near_76 (fun H locs hP hD hS => ?_)
    replace hP : va_P D vwCl [(ad 29, .inr (8, [.int 2, .int v_mod_steps, .ref (ad 30), .int v_mod_pipes, .ref (ad 31), .int v_mod_items, .ref (ad 32), .ref (ad 33), .ref (ad 34), .ref (ad 35), .ref (ad 36), .ref (ad 37), .ref (ad 38), .int v_mod_least, .int v_mod_most, .ref (ad 39), .ref (ad 40), .ref (ad 41), .ref (ad 42), .ref (ad 43), .ref (ad 44), .int (bI v_mod_hasPlan), .int v_mod_told, .ref (ad 45), .int v_mod_pieces, .ref (ad 46), .ref (ad 47), .ref (ad 48), .long v_mod_planWorth, .long v_mod_planCents])), (ad 37, .inl (ki 1, n_mnea, .inr (.inl (vp_updL v_mnea (Int32.toNatClampNeg ((6 * p1) + p2)) p3))))] H := hP
    replace hD : va_D A [(ad 29, .inr (8, [.int 2, .int v_mod_steps, .ref (ad 30), .int v_mod_pipes, .ref (ad 31), .int v_mod_items, .ref (ad 32), .ref (ad 33), .ref (ad 34), .ref (ad 35), .ref (ad 36), .ref (ad 37), .ref (ad 38), .int v_mod_least, .int v_mod_most, .ref (ad 39), .ref (ad 40), .ref (ad 41), .ref (ad 42), .ref (ad 43), .ref (ad 44), .int (bI v_mod_hasPlan), .int v_mod_told, .ref (ad 45), .int v_mod_pieces, .ref (ad 46), .ref (ad 47), .ref (ad 48), .long v_mod_planWorth, .long v_mod_planCents])), (ad 37, .inl (ki 1, n_mnea, .inr (.inl (vp_updL v_mnea (Int32.toNatClampNeg ((6 * p1) + p2)) p3))))] := hD
    refine lv_aload_n hx hb d_Model_near_77 rfl (lv_at hl 0 rfl) ?_
    refine va_get (D := D) (ci := 8) (v := .ref (ad 37)) (C := R_Model) (T := F_Model) (N := 30) hx hb hts hn_Model hown hK hP 0 rfl rfl 11 (by decide) hL33 (fun _ h9 => h9) rfl d_Model_near_78 ?_
    refine lv_bipush (v := 6) hx hb d_Model_near_81 (by decide) ?_
    refine lv_iload_n hx hb d_Model_near_83 rfl (lv_at hl 2 rfl) ?_
    refine lv_imul hx hb d_Model_near_84 ?_
    refine lv_iload_n hx hb d_Model_near_85 rfl (lv_at hl 1 rfl) ?_
    refine lv_iadd hx hb d_Model_near_86 ?_
    refine lv_lload_n hx hb d_Model_near_87 rfl (lv_at hl 3 rfl) ?_
    obtain ⟨hi_21, hf⟩ := q_ck hf
    refine va_last hx hb hK hP hD hS 1 1 rfl rfl hi_21 d_Model_near_88 (fun H locs hP hD hS => ?_)
    replace hP : va_P D vwCl [(ad 29, .inr (8, [.int 2, .int v_mod_steps, .ref (ad 30), .int v_mod_pipes, .ref (ad 31), .int v_mod_items, .ref (ad 32), .ref (ad 33), .ref (ad 34), .ref (ad 35), .ref (ad 36), .ref (ad 37), .ref (ad 38), .int v_mod_least, .int v_mod_most, .ref (ad 39), .ref (ad 40), .ref (ad 41), .ref (ad 42), .ref (ad 43), .ref (ad 44), .int (bI v_mod_hasPlan), .int v_mod_told, .ref (ad 45), .int v_mod_pieces, .ref (ad 46), .ref (ad 47), .ref (ad 48), .long v_mod_planWorth, .long v_mod_planCents])), (ad 37, .inl (ki 1, n_mnea, .inr (.inl (vp_updL (vp_updL v_mnea (Int32.toNatClampNeg ((6 * p1) + p2)) p3) (Int32.toNatClampNeg ((6 * p2) + p1)) p3))))] H := hP
    replace hD : va_D A [(ad 29, .inr (8, [.int 2, .int v_mod_steps, .ref (ad 30), .int v_mod_pipes, .ref (ad 31), .int v_mod_items, .ref (ad 32), .ref (ad 33), .ref (ad 34), .ref (ad 35), .ref (ad 36), .ref (ad 37), .ref (ad 38), .int v_mod_least, .int v_mod_most, .ref (ad 39), .ref (ad 40), .ref (ad 41), .ref (ad 42), .ref (ad 43), .ref (ad 44), .int (bI v_mod_hasPlan), .int v_mod_told, .ref (ad 45), .int v_mod_pieces, .ref (ad 46), .ref (ad 47), .ref (ad 48), .long v_mod_planWorth, .long v_mod_planCents])), (ad 37, .inl (ki 1, n_mnea, .inr (.inl (vp_updL (vp_updL v_mnea (Int32.toNatClampNeg ((6 * p1) + p2)) p3) (Int32.toNatClampNeg ((6 * p2) + p1)) p3))))] := hD
    refine lv_aload_n hx hb d_Model_near_89 rfl (lv_at hl 0 rfl) ?_
    obtain ⟨v_mod_hasPlan_22, hc_22, hf⟩ := q_mb hf
    have hC_22 : ([0] : List Nat).map (fun i => ([(ad 29, .inr (8, [.int 2, .int v_mod_steps, .ref (ad 30), .int v_mod_pipes, .ref (ad 31), .int v_mod_items, .ref (ad 32), .ref (ad 33), .ref (ad 34), .ref (ad 35), .ref (ad 36), .ref (ad 37), .ref (ad 38), .int v_mod_least, .int v_mod_most, .ref (ad 39), .ref (ad 40), .ref (ad 41), .ref (ad 42), .ref (ad 43), .ref (ad 44), .int (bI v_mod_hasPlan), .int v_mod_told, .ref (ad 45), .int v_mod_pieces, .ref (ad 46), .ref (ad 47), .ref (ad 48), .long v_mod_planWorth, .long v_mod_planCents])), (ad 37, .inl (ki 1, n_mnea, .inr (.inl (vp_updL (vp_updL v_mnea (Int32.toNatClampNeg ((6 * p1) + p2)) p3) (Int32.toNatClampNeg ((6 * p2) + p1)) p3))))] : va_W)[i]?) = ([(ad 29, .inr (8, [.int 2, .int v_mod_steps, .ref (ad 30), .int v_mod_pipes, .ref (ad 31), .int v_mod_items, .ref (ad 32), .ref (ad 33), .ref (ad 34), .ref (ad 35), .ref (ad 36), .ref (ad 37), .ref (ad 38), .int v_mod_least, .int v_mod_most, .ref (ad 39), .ref (ad 40), .ref (ad 41), .ref (ad 42), .ref (ad 43), .ref (ad 44), .int (bI v_mod_hasPlan), .int v_mod_told, .ref (ad 45), .int v_mod_pieces, .ref (ad 46), .ref (ad 47), .ref (ad 48), .long v_mod_planWorth, .long v_mod_planCents]))] : va_W).map some := rfl
    refine q_mcall3 (w1 := [(ad 29, .inr (8, [.int 2, .int v_mod_steps, .ref (ad 30), .int v_mod_pipes, .ref (ad 31), .int v_mod_items, .ref (ad 32), .ref (ad 33), .ref (ad 34), .ref (ad 35), .ref (ad 36), .ref (ad 37), .ref (ad 38), .int v_mod_least, .int v_mod_most, .ref (ad 39), .ref (ad 40), .ref (ad 41), .ref (ad 42), .ref (ad 43), .ref (ad 44), .int (bI v_mod_hasPlan_22), .int v_mod_told, .ref (ad 45), .int v_mod_pieces, .ref (ad 46), .ref (ad 47), .ref (ad 48), .long v_mod_planWorth, .long v_mod_planCents]))]) (ws' := [(ad 29, .inr (8, [.int 2, .int v_mod_steps, .ref (ad 30), .int v_mod_pipes, .ref (ad 31), .int v_mod_items, .ref (ad 32), .ref (ad 33), .ref (ad 34), .ref (ad 35), .ref (ad 36), .ref (ad 37), .ref (ad 38), .int v_mod_least, .int v_mod_most, .ref (ad 39), .ref (ad 40), .ref (ad 41), .ref (ad 42), .ref (ad 43), .ref (ad 44), .int (bI v_mod_hasPlan_22), .int v_mod_told, .ref (ad 45), .int v_mod_pieces, .ref (ad 46), .ref (ad 47), .ref (ad 48), .long v_mod_planWorth, .long v_mod_planCents])), (ad 37, .inl (ki 1, n_mnea, .inr (.inl (vp_updL (vp_updL v_mnea (Int32.toNatClampNeg ((6 * p1) + p2)) p3) (Int32.toNatClampNeg ((6 * p2) + p1)) p3))))]) (wc := [(ad 29, .inr (8, [.int 2, .int v_mod_steps, .ref (ad 30), .int v_mod_pipes, .ref (ad 31), .int v_mod_items, .ref (ad 32), .ref (ad 33), .ref (ad 34), .ref (ad 35), .ref (ad 36), .ref (ad 37), .ref (ad 38), .int v_mod_least, .int v_mod_most, .ref (ad 39), .ref (ad 40), .ref (ad 41), .ref (ad 42), .ref (ad 43), .ref (ad 44), .int (bI v_mod_hasPlan), .int v_mod_told, .ref (ad 45), .int v_mod_pieces, .ref (ad 46), .ref (ad 47), .ref (ad 48), .long v_mod_planWorth, .long v_mod_planCents]))]) (va_runV (As := []) (rest := []) ⟨hx, hb, hml, hown, hts⟩ (c_Model_change l D ad ki 2 v_mod_steps v_mod_pipes v_mod_items v_mod_least v_mod_most v_mod_hasPlan v_mod_told v_mod_pieces v_mod_planWorth v_mod_planCents N _ v_mod_hasPlan_22 hc_22) (cwV 0 hts (q_goodV ⟨m_942, m_944, m_31, m_64⟩ m_945) rfl rfl rfl (by decide +kernel) ⟨Nat.le_of_ble_eq_true rfl, Nat.le_of_ble_eq_true rfl⟩) (q_preVM3 hE hK hP hD (by decide +kernel) hC_22 0 8 rfl rfl) rfl rfl hl.1 rfl (lv_room (Nat.le_of_ble_eq_true rfl)) d_Model_near_90 ⟨Nat.le_of_ble_eq_true rfl, Nat.le_of_ble_eq_true rfl⟩) hP hD hS hA hC_22 [ad 29, ad 37] rfl rfl (fun H1 h1 hk => (q_c (h1 0 _ rfl) (q_c (hk 1 _ rfl (by decide)) q_n))) rfl (fun H locs hP hD hS => ?_)
    refine lv_iconst (v := 1) hx hb d_Model_near_93 (by decide) ?_
    cases hf
    exact W.zret (v := bI true) hx hb hr (bI_nar _) (fun t ht hW => ⟨rfl, by rw [ht]; exact hP, hS.F ht⟩) hS.2.2 d_Model_near_94
  replace hf := q_it hf c_19
  refine lv_iconst (v := 0) hx hb d_Model_near_63 (by decide) ?_
  cases hf
  exact W.zret (v := bI false) hx hb hr (bI_nar _) (fun t ht hW => ⟨rfl, by rw [ht]; exact hP, hS.F ht⟩) hS.2.2 d_Model_near_64
def f_Model_bar (N : Nat) (n_mbar : Nat) (v_mod_code : Int32) (v_mod_steps : Int32) (v_mod_pipes : Int32) (v_mod_items : Int32) (v_mod_least : Int32) (v_mod_most : Int32) (v_mod_hasPlan : Bool) (v_mod_told : Int32) (v_mod_pieces : Int32) (v_mod_planWorth : Int64) (v_mod_planCents : Int64) (v_mbar : Nat → Int32) (p1 : Int32) (p2 : Int32) : Option (Bool × Int32 × Bool × (Nat → Int32)) := (Option.bind (f_Model_pairCode N v_mod_code v_mod_steps v_mod_pipes v_mod_items v_mod_least v_mod_most v_mod_hasPlan v_mod_told v_mod_pieces v_mod_planWorth v_mod_planCents p1 p2) (fun r_1 => (if 0 < r_1 then (some (false, r_1, v_mod_hasPlan, v_mbar)) else (if ((6 * p1) + p2) < 0 ∨ n_mbar ≤ Int32.toNatClampNeg ((6 * p1) + p2) then none else (if (v_mbar (Int32.toNatClampNeg ((6 * p1) + p2))) = 0 then (if ((6 * p1) + p2) < 0 ∨ n_mbar ≤ Int32.toNatClampNeg ((6 * p1) + p2) then none else (if ((6 * p2) + p1) < 0 ∨ n_mbar ≤ Int32.toNatClampNeg ((6 * p2) + p1) then none else (Option.bind (f_Model_change N r_1 v_mod_steps v_mod_pipes v_mod_items v_mod_least v_mod_most v_mod_hasPlan v_mod_told v_mod_pieces v_mod_planWorth v_mod_planCents) (fun v_mod_hasPlan_7 => (some (true, r_1, v_mod_hasPlan_7, (upd (upd v_mbar (Int32.toNatClampNeg ((6 * p1) + p2)) (vp_nar .boolean 1)) (Int32.toNatClampNeg ((6 * p2) + p1)) (vp_nar .boolean 1)))))))) else (some (false, r_1, v_mod_hasPlan, v_mbar)))))))
set_option maxRecDepth 100000 in
set_option maxHeartbeats 4000000 in
theorem c_Model_bar (l : Launch) (D : va_G) (ad : Nat → Nat) (ki : Nat → ClassId) (n_mbar : Nat) (v_mod_code : Int32) (v_mod_steps : Int32) (v_mod_pipes : Int32) (v_mod_items : Int32) (v_mod_least : Int32) (v_mod_most : Int32) (v_mod_hasPlan : Bool) (v_mod_told : Int32) (v_mod_pieces : Int32) (v_mod_planWorth : Int64) (v_mod_planCents : Int64) (v_mbar : Nat → Int32) (p1 : Int32) (p2 : Int32) (N : Nat) (sz : Nat) (r : Bool) (ov_mod_code : Int32) (ov_mod_hasPlan : Bool) (ov_mbar : Nat → Int32) (hf : f_Model_bar N n_mbar v_mod_code v_mod_steps v_mod_pipes v_mod_items v_mod_least v_mod_most v_mod_hasPlan v_mod_told v_mod_pieces v_mod_planWorth v_mod_planCents v_mbar p1 p2 = some (r, ov_mod_code, ov_mod_hasPlan, ov_mbar)) : Met l y_Model_bar w_Model_bar { frames := 2, cells := 0, slots := 0, locals := 43 } (q_PcM [.ref (ad 29), .int p1, .int p2] D vwCl [(ad 29, .inr (8, [.int v_mod_code, .int v_mod_steps, .ref (ad 30), .int v_mod_pipes, .ref (ad 31), .int v_mod_items, .ref (ad 32), .ref (ad 33), .ref (ad 34), .ref (ad 35), .ref (ad 36), .ref (ad 37), .ref (ad 38), .int v_mod_least, .int v_mod_most, .ref (ad 39), .ref (ad 40), .ref (ad 41), .ref (ad 42), .ref (ad 43), .ref (ad 44), .int (bI v_mod_hasPlan), .int v_mod_told, .ref (ad 45), .int v_mod_pieces, .ref (ad 46), .ref (ad 47), .ref (ad 48), .long v_mod_planWorth, .long v_mod_planCents])), (ad 38, .inl (ki 2, n_mbar, .inl v_mbar))] (TYS ki) sz) (q_Qm (some (.int (bI r))) D vwCl [(ad 29, .inr (8, [.int ov_mod_code, .int v_mod_steps, .ref (ad 30), .int v_mod_pipes, .ref (ad 31), .int v_mod_items, .ref (ad 32), .ref (ad 33), .ref (ad 34), .ref (ad 35), .ref (ad 36), .ref (ad 37), .ref (ad 38), .int v_mod_least, .int v_mod_most, .ref (ad 39), .ref (ad 40), .ref (ad 41), .ref (ad 42), .ref (ad 43), .ref (ad 44), .int (bI ov_mod_hasPlan), .int v_mod_told, .ref (ad 45), .int v_mod_pieces, .ref (ad 46), .ref (ad 47), .ref (ad 48), .long v_mod_planWorth, .long v_mod_planCents])), (ad 38, .inl (ki 2, n_mbar, .inl ov_mbar))] (va_A [(ad 29, .inr (8, [.int v_mod_code, .int v_mod_steps, .ref (ad 30), .int v_mod_pipes, .ref (ad 31), .int v_mod_items, .ref (ad 32), .ref (ad 33), .ref (ad 34), .ref (ad 35), .ref (ad 36), .ref (ad 37), .ref (ad 38), .int v_mod_least, .int v_mod_most, .ref (ad 39), .ref (ad 40), .ref (ad 41), .ref (ad 42), .ref (ad 43), .ref (ad 44), .int (bI v_mod_hasPlan), .int v_mod_told, .ref (ad 45), .int v_mod_pieces, .ref (ad 46), .ref (ad 47), .ref (ad 48), .long v_mod_planWorth, .long v_mod_planCents])), (ad 38, .inl (ki 2, n_mbar, .inl v_mbar))] sz)) 0 0 (va_A [(ad 29, .inr (8, [.int v_mod_code, .int v_mod_steps, .ref (ad 30), .int v_mod_pipes, .ref (ad 31), .int v_mod_items, .ref (ad 32), .ref (ad 33), .ref (ad 34), .ref (ad 35), .ref (ad 36), .ref (ad 37), .ref (ad 38), .int v_mod_least, .int v_mod_most, .ref (ad 39), .ref (ad 40), .ref (ad 41), .ref (ad 42), .ref (ad 43), .ref (ad 44), .int (bI v_mod_hasPlan), .int v_mod_told, .ref (ad 45), .int v_mod_pieces, .ref (ad 46), .ref (ad 47), .ref (ad 48), .long v_mod_planWorth, .long v_mod_planCents])), (ad 38, .inl (ki 2, n_mbar, .inl v_mbar))] sz) := by
  refine Met.ofW (cc := b_Model_bar) (maxL := 3) (ret := (some .boolean)) (by decide) rfl ?_
  intro p e s m args below meth c s₁ B hml hv
  obtain ⟨rfl, hsz, hP, hK, hD0, hE⟩ := hv
  have hx := B.exec
  have hb := B.bytes
  have hr := B.returns
  have hts := atoms_spec (ws := w_Model_bar) B.pre
  have hown : s.vm.findClass R_Model = some m.cls := findClass_of_methodNamed B.named
  have hlocks := B.notSynchronized
  have hn_Model : ∀ w ∈ u_ws R_Model F_Model 30, w ∈ w_Model_bar := (fun w h => List.mem_cons_of_mem _ (i_Model w h))
  have hL36 := hts (.fieldLink R_Model 36 "RoomFillsModel" "bars" "[Z") (List.mem_cons_of_mem _ m_855)
  have hL76 := hts (.fieldLink R_Model 76 "RoomFillsModel" "code" "I") (List.mem_cons_of_mem _ m_843)
  subst hsz
  have hD := hD0.self (sz := s.heap.size)
  generalize hAe : va_A [(ad 29, .inr (8, [.int v_mod_code, .int v_mod_steps, .ref (ad 30), .int v_mod_pipes, .ref (ad 31), .int v_mod_items, .ref (ad 32), .ref (ad 33), .ref (ad 34), .ref (ad 35), .ref (ad 36), .ref (ad 37), .ref (ad 38), .int v_mod_least, .int v_mod_most, .ref (ad 39), .ref (ad 40), .ref (ad 41), .ref (ad 42), .ref (ad 43), .ref (ad 44), .int (bI v_mod_hasPlan), .int v_mod_told, .ref (ad 45), .int v_mod_pieces, .ref (ad 46), .ref (ad 47), .ref (ad 48), .long v_mod_planWorth, .long v_mod_planCents])), (ad 38, .inl (ki 2, n_mbar, .inl v_mbar))] s.heap.size = A at hD ⊢
  have hA : ∀ q : Nat, s.heap.size ≤ q → A q := fun q h => by rw [← hAe]; exact Or.inr h
  have hS : va_S A s.heap s.heap [] := va_S.rf
  replace hP : va_P D vwCl [(ad 29, .inr (8, [.int v_mod_code, .int v_mod_steps, .ref (ad 30), .int v_mod_pipes, .ref (ad 31), .int v_mod_items, .ref (ad 32), .ref (ad 33), .ref (ad 34), .ref (ad 35), .ref (ad 36), .ref (ad 37), .ref (ad 38), .int v_mod_least, .int v_mod_most, .ref (ad 39), .ref (ad 40), .ref (ad 41), .ref (ad 42), .ref (ad 43), .ref (ad 44), .int (bI v_mod_hasPlan), .int v_mod_told, .ref (ad 45), .int v_mod_pieces, .ref (ad 46), .ref (ad 47), .ref (ad 48), .long v_mod_planWorth, .long v_mod_planCents])), (ad 38, .inl (ki 2, n_mbar, .inl v_mbar))] s.heap := hP
  have hl := lv_entry ([.ref (ad 29), .int p1, .int p2]) (n := 3) (Nat.le_of_ble_eq_true rfl)
  rw [lg_entry_eq]
  generalize (lg_sl ([.ref (ad 29), .int p1, .int p2]) ++ List.replicate (3 - (lg_sl ([.ref (ad 29), .int p1, .int p2])).length) Slot.unset).toArray = ls at hl ⊢
  replace hl : lv_has ls 3 [(0, .ref (ad 29)), (1, .int p1), (2, .int p2)] := hl
  unfold f_Model_bar at hf
  refine lv_aload_n hx hb d_Model_bar_0 rfl (lv_at hl 0 rfl) ?_
  refine lv_aload_n hx hb d_Model_bar_1 rfl (lv_at hl 0 rfl) ?_
  refine lv_iload_n hx hb d_Model_bar_2 rfl (lv_at hl 1 rfl) ?_
  refine lv_iload_n hx hb d_Model_bar_3 rfl (lv_at hl 2 rfl) ?_
  obtain ⟨r_1, hc_1, hf⟩ := q_mb hf
  refine q_pcall (W.runV (As := [.int p1, .int p2]) (rest := [.ref (ad 29)]) ⟨hx, hb, hml, hown, hts⟩ (c_Model_pairCode l D ad ki v_mod_code v_mod_steps v_mod_pipes v_mod_items v_mod_least v_mod_most v_mod_hasPlan v_mod_told v_mod_pieces v_mod_planWorth v_mod_planCents p1 p2 N r_1 hc_1) (cwV 2 hts (q_goodV ⟨m_973, m_975, m_33, m_64⟩ m_976) rfl rfl rfl (by decide +kernel) ⟨Nat.le_of_ble_eq_true rfl, Nat.le_of_ble_eq_true rfl⟩) (q_preVP (wc := [(ad 29, .inr (8, [.int v_mod_code, .int v_mod_steps, .ref (ad 30), .int v_mod_pipes, .ref (ad 31), .int v_mod_items, .ref (ad 32), .ref (ad 33), .ref (ad 34), .ref (ad 35), .ref (ad 36), .ref (ad 37), .ref (ad 38), .int v_mod_least, .int v_mod_most, .ref (ad 39), .ref (ad 40), .ref (ad 41), .ref (ad 42), .ref (ad 43), .ref (ad 44), .int (bI v_mod_hasPlan), .int v_mod_told, .ref (ad 45), .int v_mod_pieces, .ref (ad 46), .ref (ad 47), .ref (ad 48), .long v_mod_planWorth, .long v_mod_planCents]))]) hE hK hP [0] rfl 0 8 rfl rfl) rfl rfl hl.1 rfl (lv_room (Nat.le_of_ble_eq_true rfl)) d_Model_bar_4 ⟨Nat.le_of_ble_eq_true rfl, Nat.le_of_ble_eq_true rfl⟩) ?_
  refine va_put (D := D) (ci := 8) (v := .int r_1) (ty := .int) (C := R_Model) (T := F_Model) (N := 30) hx hb hts hn_Model t_Model t_Model_ok n_Model hown hK hP hD hS 0 rfl rfl 0 (by decide) hL76 (fun _ h9 => h9) rfl (by decide +kernel) rfl rfl (Nat.le_of_ble_eq_true rfl) d_Model_bar_7 (fun H locs hP hD hS => ?_)
  replace hP : va_P D vwCl [(ad 29, .inr (8, [.int r_1, .int v_mod_steps, .ref (ad 30), .int v_mod_pipes, .ref (ad 31), .int v_mod_items, .ref (ad 32), .ref (ad 33), .ref (ad 34), .ref (ad 35), .ref (ad 36), .ref (ad 37), .ref (ad 38), .int v_mod_least, .int v_mod_most, .ref (ad 39), .ref (ad 40), .ref (ad 41), .ref (ad 42), .ref (ad 43), .ref (ad 44), .int (bI v_mod_hasPlan), .int v_mod_told, .ref (ad 45), .int v_mod_pieces, .ref (ad 46), .ref (ad 47), .ref (ad 48), .long v_mod_planWorth, .long v_mod_planCents])), (ad 38, .inl (ki 2, n_mbar, .inl v_mbar))] H := hP
  replace hD : va_D A [(ad 29, .inr (8, [.int r_1, .int v_mod_steps, .ref (ad 30), .int v_mod_pipes, .ref (ad 31), .int v_mod_items, .ref (ad 32), .ref (ad 33), .ref (ad 34), .ref (ad 35), .ref (ad 36), .ref (ad 37), .ref (ad 38), .int v_mod_least, .int v_mod_most, .ref (ad 39), .ref (ad 40), .ref (ad 41), .ref (ad 42), .ref (ad 43), .ref (ad 44), .int (bI v_mod_hasPlan), .int v_mod_told, .ref (ad 45), .int v_mod_pieces, .ref (ad 46), .ref (ad 47), .ref (ad 48), .long v_mod_planWorth, .long v_mod_planCents])), (ad 38, .inl (ki 2, n_mbar, .inl v_mbar))] := hD
  refine lv_aload_n hx hb d_Model_bar_10 rfl (lv_at hl 0 rfl) ?_
  refine va_get (D := D) (ci := 8) (v := .int r_1) (C := R_Model) (T := F_Model) (N := 30) hx hb hts hn_Model hown hK hP 0 rfl rfl 0 (by decide) hL76 (fun _ h9 => h9) rfl d_Model_bar_11 ?_
  refine lv_if_gt (tgt := 31) hx hb d_Model_bar_14 (by decide) (fun c_2 => ?_) (fun c_2 => ?_)
  · replace hf := q_it hf c_2
    refine lv_iconst (v := 0) hx hb d_Model_bar_31 (by decide) ?_
    cases hf
    exact W.zret (v := bI false) hx hb hr (bI_nar _) (fun t ht hW => ⟨rfl, by rw [ht]; exact hP, hS.F ht⟩) hS.2.2 d_Model_bar_32
  replace hf := q_ie hf c_2
  refine lv_aload_n hx hb d_Model_bar_17 rfl (lv_at hl 0 rfl) ?_
  refine va_get (D := D) (ci := 8) (v := .ref (ad 38)) (C := R_Model) (T := F_Model) (N := 30) hx hb hts hn_Model hown hK hP 0 rfl rfl 12 (by decide) hL36 (fun _ h9 => h9) rfl d_Model_bar_18 ?_
  refine lv_bipush (v := 6) hx hb d_Model_bar_21 (by decide) ?_
  refine lv_iload_n hx hb d_Model_bar_23 rfl (lv_at hl 1 rfl) ?_
  refine lv_imul hx hb d_Model_bar_24 ?_
  refine lv_iload_n hx hb d_Model_bar_25 rfl (lv_at hl 2 rfl) ?_
  refine lv_iadd hx hb d_Model_bar_26 ?_
  obtain ⟨hi_3, hf⟩ := q_ck hf
  refine va_zald hx hb hK hP 1 2 rfl rfl hi_3 d_Model_bar_27 ?_
  refine lv_if_eq (tgt := 33) hx hb d_Model_bar_28 (by decide) (fun c_4 => ?_) (fun c_4 => ?_)
  · replace hf := q_it hf c_4
    refine lv_aload_n hx hb d_Model_bar_33 rfl (lv_at hl 0 rfl) ?_
    refine va_get (D := D) (ci := 8) (v := .ref (ad 38)) (C := R_Model) (T := F_Model) (N := 30) hx hb hts hn_Model hown hK hP 0 rfl rfl 12 (by decide) hL36 (fun _ h9 => h9) rfl d_Model_bar_34 ?_
    refine lv_bipush (v := 6) hx hb d_Model_bar_37 (by decide) ?_
    refine lv_iload_n hx hb d_Model_bar_39 rfl (lv_at hl 1 rfl) ?_
    refine lv_imul hx hb d_Model_bar_40 ?_
    refine lv_iload_n hx hb d_Model_bar_41 rfl (lv_at hl 2 rfl) ?_
    refine lv_iadd hx hb d_Model_bar_42 ?_
    refine lv_iconst (v := 1) hx hb d_Model_bar_43 (by decide) ?_
    obtain ⟨hi_5, hf⟩ := q_ck hf
    refine va_zast hx hb hK hP hD hS 1 2 rfl rfl hi_5 d_Model_bar_44 (fun H locs hP hD hS => ?_)
    replace hP : va_P D vwCl [(ad 29, .inr (8, [.int r_1, .int v_mod_steps, .ref (ad 30), .int v_mod_pipes, .ref (ad 31), .int v_mod_items, .ref (ad 32), .ref (ad 33), .ref (ad 34), .ref (ad 35), .ref (ad 36), .ref (ad 37), .ref (ad 38), .int v_mod_least, .int v_mod_most, .ref (ad 39), .ref (ad 40), .ref (ad 41), .ref (ad 42), .ref (ad 43), .ref (ad 44), .int (bI v_mod_hasPlan), .int v_mod_told, .ref (ad 45), .int v_mod_pieces, .ref (ad 46), .ref (ad 47), .ref (ad 48), .long v_mod_planWorth, .long v_mod_planCents])), (ad 38, .inl (ki 2, n_mbar, .inl (upd v_mbar (Int32.toNatClampNeg ((6 * p1) + p2)) (vp_nar .boolean 1))))] H := hP
    replace hD : va_D A [(ad 29, .inr (8, [.int r_1, .int v_mod_steps, .ref (ad 30), .int v_mod_pipes, .ref (ad 31), .int v_mod_items, .ref (ad 32), .ref (ad 33), .ref (ad 34), .ref (ad 35), .ref (ad 36), .ref (ad 37), .ref (ad 38), .int v_mod_least, .int v_mod_most, .ref (ad 39), .ref (ad 40), .ref (ad 41), .ref (ad 42), .ref (ad 43), .ref (ad 44), .int (bI v_mod_hasPlan), .int v_mod_told, .ref (ad 45), .int v_mod_pieces, .ref (ad 46), .ref (ad 47), .ref (ad 48), .long v_mod_planWorth, .long v_mod_planCents])), (ad 38, .inl (ki 2, n_mbar, .inl (upd v_mbar (Int32.toNatClampNeg ((6 * p1) + p2)) (vp_nar .boolean 1))))] := hD
    refine lv_aload_n hx hb d_Model_bar_45 rfl (lv_at hl 0 rfl) ?_
    refine va_get (D := D) (ci := 8) (v := .ref (ad 38)) (C := R_Model) (T := F_Model) (N := 30) hx hb hts hn_Model hown hK hP 0 rfl rfl 12 (by decide) hL36 (fun _ h9 => h9) rfl d_Model_bar_46 ?_
    refine lv_bipush (v := 6) hx hb d_Model_bar_49 (by decide) ?_
    refine lv_iload_n hx hb d_Model_bar_51 rfl (lv_at hl 2 rfl) ?_
    refine lv_imul hx hb d_Model_bar_52 ?_
    refine lv_iload_n hx hb d_Model_bar_53 rfl (lv_at hl 1 rfl) ?_
    refine lv_iadd hx hb d_Model_bar_54 ?_
    refine lv_iconst (v := 1) hx hb d_Model_bar_55 (by decide) ?_
    obtain ⟨hi_6, hf⟩ := q_ck hf
    refine va_zast hx hb hK hP hD hS 1 2 rfl rfl hi_6 d_Model_bar_56 (fun H locs hP hD hS => ?_)
    replace hP : va_P D vwCl [(ad 29, .inr (8, [.int r_1, .int v_mod_steps, .ref (ad 30), .int v_mod_pipes, .ref (ad 31), .int v_mod_items, .ref (ad 32), .ref (ad 33), .ref (ad 34), .ref (ad 35), .ref (ad 36), .ref (ad 37), .ref (ad 38), .int v_mod_least, .int v_mod_most, .ref (ad 39), .ref (ad 40), .ref (ad 41), .ref (ad 42), .ref (ad 43), .ref (ad 44), .int (bI v_mod_hasPlan), .int v_mod_told, .ref (ad 45), .int v_mod_pieces, .ref (ad 46), .ref (ad 47), .ref (ad 48), .long v_mod_planWorth, .long v_mod_planCents])), (ad 38, .inl (ki 2, n_mbar, .inl (upd (upd v_mbar (Int32.toNatClampNeg ((6 * p1) + p2)) (vp_nar .boolean 1)) (Int32.toNatClampNeg ((6 * p2) + p1)) (vp_nar .boolean 1))))] H := hP
    replace hD : va_D A [(ad 29, .inr (8, [.int r_1, .int v_mod_steps, .ref (ad 30), .int v_mod_pipes, .ref (ad 31), .int v_mod_items, .ref (ad 32), .ref (ad 33), .ref (ad 34), .ref (ad 35), .ref (ad 36), .ref (ad 37), .ref (ad 38), .int v_mod_least, .int v_mod_most, .ref (ad 39), .ref (ad 40), .ref (ad 41), .ref (ad 42), .ref (ad 43), .ref (ad 44), .int (bI v_mod_hasPlan), .int v_mod_told, .ref (ad 45), .int v_mod_pieces, .ref (ad 46), .ref (ad 47), .ref (ad 48), .long v_mod_planWorth, .long v_mod_planCents])), (ad 38, .inl (ki 2, n_mbar, .inl (upd (upd v_mbar (Int32.toNatClampNeg ((6 * p1) + p2)) (vp_nar .boolean 1)) (Int32.toNatClampNeg ((6 * p2) + p1)) (vp_nar .boolean 1))))] := hD
    refine lv_aload_n hx hb d_Model_bar_57 rfl (lv_at hl 0 rfl) ?_
    obtain ⟨v_mod_hasPlan_7, hc_7, hf⟩ := q_mb hf
    have hC_7 : ([0] : List Nat).map (fun i => ([(ad 29, .inr (8, [.int r_1, .int v_mod_steps, .ref (ad 30), .int v_mod_pipes, .ref (ad 31), .int v_mod_items, .ref (ad 32), .ref (ad 33), .ref (ad 34), .ref (ad 35), .ref (ad 36), .ref (ad 37), .ref (ad 38), .int v_mod_least, .int v_mod_most, .ref (ad 39), .ref (ad 40), .ref (ad 41), .ref (ad 42), .ref (ad 43), .ref (ad 44), .int (bI v_mod_hasPlan), .int v_mod_told, .ref (ad 45), .int v_mod_pieces, .ref (ad 46), .ref (ad 47), .ref (ad 48), .long v_mod_planWorth, .long v_mod_planCents])), (ad 38, .inl (ki 2, n_mbar, .inl (upd (upd v_mbar (Int32.toNatClampNeg ((6 * p1) + p2)) (vp_nar .boolean 1)) (Int32.toNatClampNeg ((6 * p2) + p1)) (vp_nar .boolean 1))))] : va_W)[i]?) = ([(ad 29, .inr (8, [.int r_1, .int v_mod_steps, .ref (ad 30), .int v_mod_pipes, .ref (ad 31), .int v_mod_items, .ref (ad 32), .ref (ad 33), .ref (ad 34), .ref (ad 35), .ref (ad 36), .ref (ad 37), .ref (ad 38), .int v_mod_least, .int v_mod_most, .ref (ad 39), .ref (ad 40), .ref (ad 41), .ref (ad 42), .ref (ad 43), .ref (ad 44), .int (bI v_mod_hasPlan), .int v_mod_told, .ref (ad 45), .int v_mod_pieces, .ref (ad 46), .ref (ad 47), .ref (ad 48), .long v_mod_planWorth, .long v_mod_planCents]))] : va_W).map some := rfl
    refine q_mcall3 (w1 := [(ad 29, .inr (8, [.int r_1, .int v_mod_steps, .ref (ad 30), .int v_mod_pipes, .ref (ad 31), .int v_mod_items, .ref (ad 32), .ref (ad 33), .ref (ad 34), .ref (ad 35), .ref (ad 36), .ref (ad 37), .ref (ad 38), .int v_mod_least, .int v_mod_most, .ref (ad 39), .ref (ad 40), .ref (ad 41), .ref (ad 42), .ref (ad 43), .ref (ad 44), .int (bI v_mod_hasPlan_7), .int v_mod_told, .ref (ad 45), .int v_mod_pieces, .ref (ad 46), .ref (ad 47), .ref (ad 48), .long v_mod_planWorth, .long v_mod_planCents]))]) (ws' := [(ad 29, .inr (8, [.int r_1, .int v_mod_steps, .ref (ad 30), .int v_mod_pipes, .ref (ad 31), .int v_mod_items, .ref (ad 32), .ref (ad 33), .ref (ad 34), .ref (ad 35), .ref (ad 36), .ref (ad 37), .ref (ad 38), .int v_mod_least, .int v_mod_most, .ref (ad 39), .ref (ad 40), .ref (ad 41), .ref (ad 42), .ref (ad 43), .ref (ad 44), .int (bI v_mod_hasPlan_7), .int v_mod_told, .ref (ad 45), .int v_mod_pieces, .ref (ad 46), .ref (ad 47), .ref (ad 48), .long v_mod_planWorth, .long v_mod_planCents])), (ad 38, .inl (ki 2, n_mbar, .inl (upd (upd v_mbar (Int32.toNatClampNeg ((6 * p1) + p2)) (vp_nar .boolean 1)) (Int32.toNatClampNeg ((6 * p2) + p1)) (vp_nar .boolean 1))))]) (wc := [(ad 29, .inr (8, [.int r_1, .int v_mod_steps, .ref (ad 30), .int v_mod_pipes, .ref (ad 31), .int v_mod_items, .ref (ad 32), .ref (ad 33), .ref (ad 34), .ref (ad 35), .ref (ad 36), .ref (ad 37), .ref (ad 38), .int v_mod_least, .int v_mod_most, .ref (ad 39), .ref (ad 40), .ref (ad 41), .ref (ad 42), .ref (ad 43), .ref (ad 44), .int (bI v_mod_hasPlan), .int v_mod_told, .ref (ad 45), .int v_mod_pieces, .ref (ad 46), .ref (ad 47), .ref (ad 48), .long v_mod_planWorth, .long v_mod_planCents]))]) (va_runV (As := []) (rest := []) ⟨hx, hb, hml, hown, hts⟩ (c_Model_change l D ad ki r_1 v_mod_steps v_mod_pipes v_mod_items v_mod_least v_mod_most v_mod_hasPlan v_mod_told v_mod_pieces v_mod_planWorth v_mod_planCents N _ v_mod_hasPlan_7 hc_7) (cwV 0 hts (q_goodV ⟨m_942, m_944, m_31, m_64⟩ m_945) rfl rfl rfl (by decide +kernel) ⟨Nat.le_of_ble_eq_true rfl, Nat.le_of_ble_eq_true rfl⟩) (q_preVM3 hE hK hP hD (by decide +kernel) hC_7 0 8 rfl rfl) rfl rfl hl.1 rfl (lv_room (Nat.le_of_ble_eq_true rfl)) d_Model_bar_58 ⟨Nat.le_of_ble_eq_true rfl, Nat.le_of_ble_eq_true rfl⟩) hP hD hS hA hC_7 [ad 29, ad 38] rfl rfl (fun H1 h1 hk => (q_c (h1 0 _ rfl) (q_c (hk 1 _ rfl (by decide)) q_n))) rfl (fun H locs hP hD hS => ?_)
    refine lv_iconst (v := 1) hx hb d_Model_bar_61 (by decide) ?_
    cases hf
    exact W.zret (v := bI true) hx hb hr (bI_nar _) (fun t ht hW => ⟨rfl, by rw [ht]; exact hP, hS.F ht⟩) hS.2.2 d_Model_bar_62
  replace hf := q_ie hf c_4
  refine lv_iconst (v := 0) hx hb d_Model_bar_31 (by decide) ?_
  cases hf
  exact W.zret (v := bI false) hx hb hr (bI_nar _) (fun t ht hW => ⟨rfl, by rw [ht]; exact hP, hS.F ht⟩) hS.2.2 d_Model_bar_32
def f_Model_must (N : Nat) (n_mmus : Nat) (v_mod_code : Int32) (v_mod_steps : Int32) (v_mod_pipes : Int32) (v_mod_items : Int32) (v_mod_least : Int32) (v_mod_most : Int32) (v_mod_hasPlan : Bool) (v_mod_told : Int32) (v_mod_pieces : Int32) (v_mod_planWorth : Int64) (v_mod_planCents : Int64) (v_mmus : Nat → Int32) (p1 : Int32) (p2 : Bool) : Option (Bool × Int32 × Bool × (Nat → Int32)) := (Option.bind (f_Model_isItem N v_mod_code v_mod_steps v_mod_pipes v_mod_items v_mod_least v_mod_most v_mod_hasPlan v_mod_told v_mod_pieces v_mod_planWorth v_mod_planCents p1) (fun r_1 => (if r_1 = true then (if 0 < (0 : Int32) then (some (false, 0, v_mod_hasPlan, v_mmus)) else (if p1 < 0 ∨ n_mmus ≤ Int32.toNatClampNeg p1 then none else (if (v_mmus (Int32.toNatClampNeg p1)) = (bI p2) then (some (false, 0, v_mod_hasPlan, v_mmus)) else (if p1 < 0 ∨ n_mmus ≤ Int32.toNatClampNeg p1 then none else (Option.bind (f_Model_change N 0 v_mod_steps v_mod_pipes v_mod_items v_mod_least v_mod_most v_mod_hasPlan v_mod_told v_mod_pieces v_mod_planWorth v_mod_planCents) (fun v_mod_hasPlan_12 => (some (true, 0, v_mod_hasPlan_12, (upd v_mmus (Int32.toNatClampNeg p1) (vp_nar .boolean (bI p2))))))))))) else (if 0 < (1 : Int32) then (some (false, 1, v_mod_hasPlan, v_mmus)) else (if p1 < 0 ∨ n_mmus ≤ Int32.toNatClampNeg p1 then none else (if (v_mmus (Int32.toNatClampNeg p1)) = (bI p2) then (some (false, 1, v_mod_hasPlan, v_mmus)) else (if p1 < 0 ∨ n_mmus ≤ Int32.toNatClampNeg p1 then none else (Option.bind (f_Model_change N 1 v_mod_steps v_mod_pipes v_mod_items v_mod_least v_mod_most v_mod_hasPlan v_mod_told v_mod_pieces v_mod_planWorth v_mod_planCents) (fun v_mod_hasPlan_7 => (some (true, 1, v_mod_hasPlan_7, (upd v_mmus (Int32.toNatClampNeg p1) (vp_nar .boolean (bI p2))))))))))))))
set_option maxRecDepth 100000 in
set_option maxHeartbeats 4000000 in
theorem c_Model_must (l : Launch) (D : va_G) (ad : Nat → Nat) (ki : Nat → ClassId) (n_mmus : Nat) (v_mod_code : Int32) (v_mod_steps : Int32) (v_mod_pipes : Int32) (v_mod_items : Int32) (v_mod_least : Int32) (v_mod_most : Int32) (v_mod_hasPlan : Bool) (v_mod_told : Int32) (v_mod_pieces : Int32) (v_mod_planWorth : Int64) (v_mod_planCents : Int64) (v_mmus : Nat → Int32) (p1 : Int32) (p2 : Bool) (N : Nat) (sz : Nat) (r : Bool) (ov_mod_code : Int32) (ov_mod_hasPlan : Bool) (ov_mmus : Nat → Int32) (hf : f_Model_must N n_mmus v_mod_code v_mod_steps v_mod_pipes v_mod_items v_mod_least v_mod_most v_mod_hasPlan v_mod_told v_mod_pieces v_mod_planWorth v_mod_planCents v_mmus p1 p2 = some (r, ov_mod_code, ov_mod_hasPlan, ov_mmus)) : Met l y_Model_must w_Model_must { frames := 1, cells := 0, slots := 0, locals := 21 } (q_PcM [.ref (ad 29), .int p1, .int (bI p2)] D vwCl [(ad 29, .inr (8, [.int v_mod_code, .int v_mod_steps, .ref (ad 30), .int v_mod_pipes, .ref (ad 31), .int v_mod_items, .ref (ad 32), .ref (ad 33), .ref (ad 34), .ref (ad 35), .ref (ad 36), .ref (ad 37), .ref (ad 38), .int v_mod_least, .int v_mod_most, .ref (ad 39), .ref (ad 40), .ref (ad 41), .ref (ad 42), .ref (ad 43), .ref (ad 44), .int (bI v_mod_hasPlan), .int v_mod_told, .ref (ad 45), .int v_mod_pieces, .ref (ad 46), .ref (ad 47), .ref (ad 48), .long v_mod_planWorth, .long v_mod_planCents])), (ad 36, .inl (ki 2, n_mmus, .inl v_mmus))] (TYS ki) sz) (q_Qm (some (.int (bI r))) D vwCl [(ad 29, .inr (8, [.int ov_mod_code, .int v_mod_steps, .ref (ad 30), .int v_mod_pipes, .ref (ad 31), .int v_mod_items, .ref (ad 32), .ref (ad 33), .ref (ad 34), .ref (ad 35), .ref (ad 36), .ref (ad 37), .ref (ad 38), .int v_mod_least, .int v_mod_most, .ref (ad 39), .ref (ad 40), .ref (ad 41), .ref (ad 42), .ref (ad 43), .ref (ad 44), .int (bI ov_mod_hasPlan), .int v_mod_told, .ref (ad 45), .int v_mod_pieces, .ref (ad 46), .ref (ad 47), .ref (ad 48), .long v_mod_planWorth, .long v_mod_planCents])), (ad 36, .inl (ki 2, n_mmus, .inl ov_mmus))] (va_A [(ad 29, .inr (8, [.int v_mod_code, .int v_mod_steps, .ref (ad 30), .int v_mod_pipes, .ref (ad 31), .int v_mod_items, .ref (ad 32), .ref (ad 33), .ref (ad 34), .ref (ad 35), .ref (ad 36), .ref (ad 37), .ref (ad 38), .int v_mod_least, .int v_mod_most, .ref (ad 39), .ref (ad 40), .ref (ad 41), .ref (ad 42), .ref (ad 43), .ref (ad 44), .int (bI v_mod_hasPlan), .int v_mod_told, .ref (ad 45), .int v_mod_pieces, .ref (ad 46), .ref (ad 47), .ref (ad 48), .long v_mod_planWorth, .long v_mod_planCents])), (ad 36, .inl (ki 2, n_mmus, .inl v_mmus))] sz)) 0 0 (va_A [(ad 29, .inr (8, [.int v_mod_code, .int v_mod_steps, .ref (ad 30), .int v_mod_pipes, .ref (ad 31), .int v_mod_items, .ref (ad 32), .ref (ad 33), .ref (ad 34), .ref (ad 35), .ref (ad 36), .ref (ad 37), .ref (ad 38), .int v_mod_least, .int v_mod_most, .ref (ad 39), .ref (ad 40), .ref (ad 41), .ref (ad 42), .ref (ad 43), .ref (ad 44), .int (bI v_mod_hasPlan), .int v_mod_told, .ref (ad 45), .int v_mod_pieces, .ref (ad 46), .ref (ad 47), .ref (ad 48), .long v_mod_planWorth, .long v_mod_planCents])), (ad 36, .inl (ki 2, n_mmus, .inl v_mmus))] sz) := by
  refine Met.ofW (cc := b_Model_must) (maxL := 3) (ret := (some .boolean)) (by decide) rfl ?_
  intro p e s m args below meth c s₁ B hml hv
  obtain ⟨rfl, hsz, hP, hK, hD0, hE⟩ := hv
  have hx := B.exec
  have hb := B.bytes
  have hr := B.returns
  have hts := atoms_spec (ws := w_Model_must) B.pre
  have hown : s.vm.findClass R_Model = some m.cls := findClass_of_methodNamed B.named
  have hlocks := B.notSynchronized
  have hn_Model : ∀ w ∈ u_ws R_Model F_Model 30, w ∈ w_Model_must := (fun w h => List.mem_cons_of_mem _ (i_Model w h))
  have hL30 := hts (.fieldLink R_Model 30 "RoomFillsModel" "musts" "[Z") (List.mem_cons_of_mem _ m_853)
  have hL76 := hts (.fieldLink R_Model 76 "RoomFillsModel" "code" "I") (List.mem_cons_of_mem _ m_843)
  subst hsz
  have hD := hD0.self (sz := s.heap.size)
  generalize hAe : va_A [(ad 29, .inr (8, [.int v_mod_code, .int v_mod_steps, .ref (ad 30), .int v_mod_pipes, .ref (ad 31), .int v_mod_items, .ref (ad 32), .ref (ad 33), .ref (ad 34), .ref (ad 35), .ref (ad 36), .ref (ad 37), .ref (ad 38), .int v_mod_least, .int v_mod_most, .ref (ad 39), .ref (ad 40), .ref (ad 41), .ref (ad 42), .ref (ad 43), .ref (ad 44), .int (bI v_mod_hasPlan), .int v_mod_told, .ref (ad 45), .int v_mod_pieces, .ref (ad 46), .ref (ad 47), .ref (ad 48), .long v_mod_planWorth, .long v_mod_planCents])), (ad 36, .inl (ki 2, n_mmus, .inl v_mmus))] s.heap.size = A at hD ⊢
  have hA : ∀ q : Nat, s.heap.size ≤ q → A q := fun q h => by rw [← hAe]; exact Or.inr h
  have hS : va_S A s.heap s.heap [] := va_S.rf
  replace hP : va_P D vwCl [(ad 29, .inr (8, [.int v_mod_code, .int v_mod_steps, .ref (ad 30), .int v_mod_pipes, .ref (ad 31), .int v_mod_items, .ref (ad 32), .ref (ad 33), .ref (ad 34), .ref (ad 35), .ref (ad 36), .ref (ad 37), .ref (ad 38), .int v_mod_least, .int v_mod_most, .ref (ad 39), .ref (ad 40), .ref (ad 41), .ref (ad 42), .ref (ad 43), .ref (ad 44), .int (bI v_mod_hasPlan), .int v_mod_told, .ref (ad 45), .int v_mod_pieces, .ref (ad 46), .ref (ad 47), .ref (ad 48), .long v_mod_planWorth, .long v_mod_planCents])), (ad 36, .inl (ki 2, n_mmus, .inl v_mmus))] s.heap := hP
  have hl := lv_entry ([.ref (ad 29), .int p1, .int (bI p2)]) (n := 3) (Nat.le_of_ble_eq_true rfl)
  rw [lg_entry_eq]
  generalize (lg_sl ([.ref (ad 29), .int p1, .int (bI p2)]) ++ List.replicate (3 - (lg_sl ([.ref (ad 29), .int p1, .int (bI p2)])).length) Slot.unset).toArray = ls at hl ⊢
  replace hl : lv_has ls 3 [(0, .ref (ad 29)), (1, .int p1), (2, .int (bI p2))] := hl
  unfold f_Model_must at hf
  refine lv_aload_n hx hb d_Model_must_0 rfl (lv_at hl 0 rfl) ?_
  refine lv_aload_n hx hb d_Model_must_1 rfl (lv_at hl 0 rfl) ?_
  refine lv_iload_n hx hb d_Model_must_2 rfl (lv_at hl 1 rfl) ?_
  obtain ⟨r_1, hc_1, hf⟩ := q_mb hf
  refine q_pcall (W.runV (As := [.int p1]) (rest := [.ref (ad 29)]) ⟨hx, hb, hml, hown, hts⟩ (c_Model_isItem l D ad ki v_mod_code v_mod_steps v_mod_pipes v_mod_items v_mod_least v_mod_most v_mod_hasPlan v_mod_told v_mod_pieces v_mod_planWorth v_mod_planCents p1 N r_1 hc_1) (cwV 1 hts (q_goodV ⟨m_963, m_965, m_32, m_64⟩ m_966) rfl rfl rfl (by decide +kernel) ⟨Nat.le_of_ble_eq_true rfl, Nat.le_of_ble_eq_true rfl⟩) (q_preVP (wc := [(ad 29, .inr (8, [.int v_mod_code, .int v_mod_steps, .ref (ad 30), .int v_mod_pipes, .ref (ad 31), .int v_mod_items, .ref (ad 32), .ref (ad 33), .ref (ad 34), .ref (ad 35), .ref (ad 36), .ref (ad 37), .ref (ad 38), .int v_mod_least, .int v_mod_most, .ref (ad 39), .ref (ad 40), .ref (ad 41), .ref (ad 42), .ref (ad 43), .ref (ad 44), .int (bI v_mod_hasPlan), .int v_mod_told, .ref (ad 45), .int v_mod_pieces, .ref (ad 46), .ref (ad 47), .ref (ad 48), .long v_mod_planWorth, .long v_mod_planCents]))]) hE hK hP [0] rfl 0 8 rfl rfl) rfl rfl hl.1 rfl (lv_room (Nat.le_of_ble_eq_true rfl)) d_Model_must_3 ⟨Nat.le_of_ble_eq_true rfl, Nat.le_of_ble_eq_true rfl⟩) ?_
  refine zv_eq (tgt := 13) hx hb d_Model_must_6 (by decide) (fun c_2 => ?_) (fun c_2 => ?_)
  · replace hf := q_ie hf c_2
    refine lv_iconst (v := 1) hx hb d_Model_must_13 (by decide) ?_
    refine va_put (D := D) (ci := 8) (v := .int 1) (ty := .int) (C := R_Model) (T := F_Model) (N := 30) hx hb hts hn_Model t_Model t_Model_ok n_Model hown hK hP hD hS 0 rfl rfl 0 (by decide) hL76 (fun _ h9 => h9) rfl (by decide +kernel) rfl rfl (Nat.le_of_ble_eq_true rfl) d_Model_must_14 (fun H locs hP hD hS => ?_)
    replace hP : va_P D vwCl [(ad 29, .inr (8, [.int 1, .int v_mod_steps, .ref (ad 30), .int v_mod_pipes, .ref (ad 31), .int v_mod_items, .ref (ad 32), .ref (ad 33), .ref (ad 34), .ref (ad 35), .ref (ad 36), .ref (ad 37), .ref (ad 38), .int v_mod_least, .int v_mod_most, .ref (ad 39), .ref (ad 40), .ref (ad 41), .ref (ad 42), .ref (ad 43), .ref (ad 44), .int (bI v_mod_hasPlan), .int v_mod_told, .ref (ad 45), .int v_mod_pieces, .ref (ad 46), .ref (ad 47), .ref (ad 48), .long v_mod_planWorth, .long v_mod_planCents])), (ad 36, .inl (ki 2, n_mmus, .inl v_mmus))] H := hP
    replace hD : va_D A [(ad 29, .inr (8, [.int 1, .int v_mod_steps, .ref (ad 30), .int v_mod_pipes, .ref (ad 31), .int v_mod_items, .ref (ad 32), .ref (ad 33), .ref (ad 34), .ref (ad 35), .ref (ad 36), .ref (ad 37), .ref (ad 38), .int v_mod_least, .int v_mod_most, .ref (ad 39), .ref (ad 40), .ref (ad 41), .ref (ad 42), .ref (ad 43), .ref (ad 44), .int (bI v_mod_hasPlan), .int v_mod_told, .ref (ad 45), .int v_mod_pieces, .ref (ad 46), .ref (ad 47), .ref (ad 48), .long v_mod_planWorth, .long v_mod_planCents])), (ad 36, .inl (ki 2, n_mmus, .inl v_mmus))] := hD
    refine lv_aload_n hx hb d_Model_must_17 rfl (lv_at hl 0 rfl) ?_
    refine va_get (D := D) (ci := 8) (v := .int 1) (C := R_Model) (T := F_Model) (N := 30) hx hb hts hn_Model hown hK hP 0 rfl rfl 0 (by decide) hL76 (fun _ h9 => h9) rfl d_Model_must_18 ?_
    refine lv_if_gt (tgt := 34) hx hb d_Model_must_21 (by decide) (fun c_3 => ?_) (fun c_3 => ?_)
    · replace hf := q_it hf c_3
      refine lv_iconst (v := 0) hx hb d_Model_must_34 (by decide) ?_
      cases hf
      exact W.zret (v := bI false) hx hb hr (bI_nar _) (fun t ht hW => ⟨rfl, by rw [ht]; exact hP, hS.F ht⟩) hS.2.2 d_Model_must_35
    replace hf := q_ie hf c_3
    refine lv_aload_n hx hb d_Model_must_24 rfl (lv_at hl 0 rfl) ?_
    refine va_get (D := D) (ci := 8) (v := .ref (ad 36)) (C := R_Model) (T := F_Model) (N := 30) hx hb hts hn_Model hown hK hP 0 rfl rfl 10 (by decide) hL30 (fun _ h9 => h9) rfl d_Model_must_25 ?_
    refine lv_iload_n hx hb d_Model_must_28 rfl (lv_at hl 1 rfl) ?_
    obtain ⟨hi_4, hf⟩ := q_ck hf
    refine va_zald hx hb hK hP 1 2 rfl rfl hi_4 d_Model_must_29 ?_
    refine lv_iload_n hx hb d_Model_must_30 rfl (lv_at hl 2 rfl) ?_
    refine lv_icmp_ne (tgt := 36) hx hb d_Model_must_31 (by decide) (fun c_5 => ?_) (fun c_5 => ?_)
    · replace hf := q_ie hf c_5
      refine lv_aload_n hx hb d_Model_must_36 rfl (lv_at hl 0 rfl) ?_
      refine va_get (D := D) (ci := 8) (v := .ref (ad 36)) (C := R_Model) (T := F_Model) (N := 30) hx hb hts hn_Model hown hK hP 0 rfl rfl 10 (by decide) hL30 (fun _ h9 => h9) rfl d_Model_must_37 ?_
      refine lv_iload_n hx hb d_Model_must_40 rfl (lv_at hl 1 rfl) ?_
      refine lv_iload_n hx hb d_Model_must_41 rfl (lv_at hl 2 rfl) ?_
      obtain ⟨hi_6, hf⟩ := q_ck hf
      refine va_zast hx hb hK hP hD hS 1 2 rfl rfl hi_6 d_Model_must_42 (fun H locs hP hD hS => ?_)
      replace hP : va_P D vwCl [(ad 29, .inr (8, [.int 1, .int v_mod_steps, .ref (ad 30), .int v_mod_pipes, .ref (ad 31), .int v_mod_items, .ref (ad 32), .ref (ad 33), .ref (ad 34), .ref (ad 35), .ref (ad 36), .ref (ad 37), .ref (ad 38), .int v_mod_least, .int v_mod_most, .ref (ad 39), .ref (ad 40), .ref (ad 41), .ref (ad 42), .ref (ad 43), .ref (ad 44), .int (bI v_mod_hasPlan), .int v_mod_told, .ref (ad 45), .int v_mod_pieces, .ref (ad 46), .ref (ad 47), .ref (ad 48), .long v_mod_planWorth, .long v_mod_planCents])), (ad 36, .inl (ki 2, n_mmus, .inl (upd v_mmus (Int32.toNatClampNeg p1) (vp_nar .boolean (bI p2)))))] H := hP
      replace hD : va_D A [(ad 29, .inr (8, [.int 1, .int v_mod_steps, .ref (ad 30), .int v_mod_pipes, .ref (ad 31), .int v_mod_items, .ref (ad 32), .ref (ad 33), .ref (ad 34), .ref (ad 35), .ref (ad 36), .ref (ad 37), .ref (ad 38), .int v_mod_least, .int v_mod_most, .ref (ad 39), .ref (ad 40), .ref (ad 41), .ref (ad 42), .ref (ad 43), .ref (ad 44), .int (bI v_mod_hasPlan), .int v_mod_told, .ref (ad 45), .int v_mod_pieces, .ref (ad 46), .ref (ad 47), .ref (ad 48), .long v_mod_planWorth, .long v_mod_planCents])), (ad 36, .inl (ki 2, n_mmus, .inl (upd v_mmus (Int32.toNatClampNeg p1) (vp_nar .boolean (bI p2)))))] := hD
      refine lv_aload_n hx hb d_Model_must_43 rfl (lv_at hl 0 rfl) ?_
      obtain ⟨v_mod_hasPlan_7, hc_7, hf⟩ := q_mb hf
      have hC_7 : ([0] : List Nat).map (fun i => ([(ad 29, .inr (8, [.int 1, .int v_mod_steps, .ref (ad 30), .int v_mod_pipes, .ref (ad 31), .int v_mod_items, .ref (ad 32), .ref (ad 33), .ref (ad 34), .ref (ad 35), .ref (ad 36), .ref (ad 37), .ref (ad 38), .int v_mod_least, .int v_mod_most, .ref (ad 39), .ref (ad 40), .ref (ad 41), .ref (ad 42), .ref (ad 43), .ref (ad 44), .int (bI v_mod_hasPlan), .int v_mod_told, .ref (ad 45), .int v_mod_pieces, .ref (ad 46), .ref (ad 47), .ref (ad 48), .long v_mod_planWorth, .long v_mod_planCents])), (ad 36, .inl (ki 2, n_mmus, .inl (upd v_mmus (Int32.toNatClampNeg p1) (vp_nar .boolean (bI p2)))))] : va_W)[i]?) = ([(ad 29, .inr (8, [.int 1, .int v_mod_steps, .ref (ad 30), .int v_mod_pipes, .ref (ad 31), .int v_mod_items, .ref (ad 32), .ref (ad 33), .ref (ad 34), .ref (ad 35), .ref (ad 36), .ref (ad 37), .ref (ad 38), .int v_mod_least, .int v_mod_most, .ref (ad 39), .ref (ad 40), .ref (ad 41), .ref (ad 42), .ref (ad 43), .ref (ad 44), .int (bI v_mod_hasPlan), .int v_mod_told, .ref (ad 45), .int v_mod_pieces, .ref (ad 46), .ref (ad 47), .ref (ad 48), .long v_mod_planWorth, .long v_mod_planCents]))] : va_W).map some := rfl
      refine q_mcall3 (w1 := [(ad 29, .inr (8, [.int 1, .int v_mod_steps, .ref (ad 30), .int v_mod_pipes, .ref (ad 31), .int v_mod_items, .ref (ad 32), .ref (ad 33), .ref (ad 34), .ref (ad 35), .ref (ad 36), .ref (ad 37), .ref (ad 38), .int v_mod_least, .int v_mod_most, .ref (ad 39), .ref (ad 40), .ref (ad 41), .ref (ad 42), .ref (ad 43), .ref (ad 44), .int (bI v_mod_hasPlan_7), .int v_mod_told, .ref (ad 45), .int v_mod_pieces, .ref (ad 46), .ref (ad 47), .ref (ad 48), .long v_mod_planWorth, .long v_mod_planCents]))]) (ws' := [(ad 29, .inr (8, [.int 1, .int v_mod_steps, .ref (ad 30), .int v_mod_pipes, .ref (ad 31), .int v_mod_items, .ref (ad 32), .ref (ad 33), .ref (ad 34), .ref (ad 35), .ref (ad 36), .ref (ad 37), .ref (ad 38), .int v_mod_least, .int v_mod_most, .ref (ad 39), .ref (ad 40), .ref (ad 41), .ref (ad 42), .ref (ad 43), .ref (ad 44), .int (bI v_mod_hasPlan_7), .int v_mod_told, .ref (ad 45), .int v_mod_pieces, .ref (ad 46), .ref (ad 47), .ref (ad 48), .long v_mod_planWorth, .long v_mod_planCents])), (ad 36, .inl (ki 2, n_mmus, .inl (upd v_mmus (Int32.toNatClampNeg p1) (vp_nar .boolean (bI p2)))))]) (wc := [(ad 29, .inr (8, [.int 1, .int v_mod_steps, .ref (ad 30), .int v_mod_pipes, .ref (ad 31), .int v_mod_items, .ref (ad 32), .ref (ad 33), .ref (ad 34), .ref (ad 35), .ref (ad 36), .ref (ad 37), .ref (ad 38), .int v_mod_least, .int v_mod_most, .ref (ad 39), .ref (ad 40), .ref (ad 41), .ref (ad 42), .ref (ad 43), .ref (ad 44), .int (bI v_mod_hasPlan), .int v_mod_told, .ref (ad 45), .int v_mod_pieces, .ref (ad 46), .ref (ad 47), .ref (ad 48), .long v_mod_planWorth, .long v_mod_planCents]))]) (va_runV (As := []) (rest := []) ⟨hx, hb, hml, hown, hts⟩ (c_Model_change l D ad ki 1 v_mod_steps v_mod_pipes v_mod_items v_mod_least v_mod_most v_mod_hasPlan v_mod_told v_mod_pieces v_mod_planWorth v_mod_planCents N _ v_mod_hasPlan_7 hc_7) (cwV 0 hts (q_goodV ⟨m_942, m_944, m_31, m_64⟩ m_945) rfl rfl rfl (by decide +kernel) ⟨Nat.le_of_ble_eq_true rfl, Nat.le_of_ble_eq_true rfl⟩) (q_preVM3 hE hK hP hD (by decide +kernel) hC_7 0 8 rfl rfl) rfl rfl hl.1 rfl (lv_room (Nat.le_of_ble_eq_true rfl)) d_Model_must_44 ⟨Nat.le_of_ble_eq_true rfl, Nat.le_of_ble_eq_true rfl⟩) hP hD hS hA hC_7 [ad 29, ad 36] rfl rfl (fun H1 h1 hk => (q_c (h1 0 _ rfl) (q_c (hk 1 _ rfl (by decide)) q_n))) rfl (fun H locs hP hD hS => ?_)
      refine lv_iconst (v := 1) hx hb d_Model_must_47 (by decide) ?_
      cases hf
      exact W.zret (v := bI true) hx hb hr (bI_nar _) (fun t ht hW => ⟨rfl, by rw [ht]; exact hP, hS.F ht⟩) hS.2.2 d_Model_must_48
    replace hf := q_it hf c_5
    refine lv_iconst (v := 0) hx hb d_Model_must_34 (by decide) ?_
    cases hf
    exact W.zret (v := bI false) hx hb hr (bI_nar _) (fun t ht hW => ⟨rfl, by rw [ht]; exact hP, hS.F ht⟩) hS.2.2 d_Model_must_35
  replace hf := q_it hf c_2
  refine lv_iconst (v := 0) hx hb d_Model_must_9 (by decide) ?_
  refine lv_goto (tgt := 14) hx hb d_Model_must_10 (by decide) ?_
  refine va_put (D := D) (ci := 8) (v := .int 0) (ty := .int) (C := R_Model) (T := F_Model) (N := 30) hx hb hts hn_Model t_Model t_Model_ok n_Model hown hK hP hD hS 0 rfl rfl 0 (by decide) hL76 (fun _ h9 => h9) rfl (by decide +kernel) rfl rfl (Nat.le_of_ble_eq_true rfl) d_Model_must_14 (fun H locs hP hD hS => ?_)
  replace hP : va_P D vwCl [(ad 29, .inr (8, [.int 0, .int v_mod_steps, .ref (ad 30), .int v_mod_pipes, .ref (ad 31), .int v_mod_items, .ref (ad 32), .ref (ad 33), .ref (ad 34), .ref (ad 35), .ref (ad 36), .ref (ad 37), .ref (ad 38), .int v_mod_least, .int v_mod_most, .ref (ad 39), .ref (ad 40), .ref (ad 41), .ref (ad 42), .ref (ad 43), .ref (ad 44), .int (bI v_mod_hasPlan), .int v_mod_told, .ref (ad 45), .int v_mod_pieces, .ref (ad 46), .ref (ad 47), .ref (ad 48), .long v_mod_planWorth, .long v_mod_planCents])), (ad 36, .inl (ki 2, n_mmus, .inl v_mmus))] H := hP
  replace hD : va_D A [(ad 29, .inr (8, [.int 0, .int v_mod_steps, .ref (ad 30), .int v_mod_pipes, .ref (ad 31), .int v_mod_items, .ref (ad 32), .ref (ad 33), .ref (ad 34), .ref (ad 35), .ref (ad 36), .ref (ad 37), .ref (ad 38), .int v_mod_least, .int v_mod_most, .ref (ad 39), .ref (ad 40), .ref (ad 41), .ref (ad 42), .ref (ad 43), .ref (ad 44), .int (bI v_mod_hasPlan), .int v_mod_told, .ref (ad 45), .int v_mod_pieces, .ref (ad 46), .ref (ad 47), .ref (ad 48), .long v_mod_planWorth, .long v_mod_planCents])), (ad 36, .inl (ki 2, n_mmus, .inl v_mmus))] := hD
  refine lv_aload_n hx hb d_Model_must_17 rfl (lv_at hl 0 rfl) ?_
  refine va_get (D := D) (ci := 8) (v := .int 0) (C := R_Model) (T := F_Model) (N := 30) hx hb hts hn_Model hown hK hP 0 rfl rfl 0 (by decide) hL76 (fun _ h9 => h9) rfl d_Model_must_18 ?_
  refine lv_if_gt (tgt := 34) hx hb d_Model_must_21 (by decide) (fun c_8 => ?_) (fun c_8 => ?_)
  · replace hf := q_it hf c_8
    refine lv_iconst (v := 0) hx hb d_Model_must_34 (by decide) ?_
    cases hf
    exact W.zret (v := bI false) hx hb hr (bI_nar _) (fun t ht hW => ⟨rfl, by rw [ht]; exact hP, hS.F ht⟩) hS.2.2 d_Model_must_35
  replace hf := q_ie hf c_8
  refine lv_aload_n hx hb d_Model_must_24 rfl (lv_at hl 0 rfl) ?_
  refine va_get (D := D) (ci := 8) (v := .ref (ad 36)) (C := R_Model) (T := F_Model) (N := 30) hx hb hts hn_Model hown hK hP 0 rfl rfl 10 (by decide) hL30 (fun _ h9 => h9) rfl d_Model_must_25 ?_
  refine lv_iload_n hx hb d_Model_must_28 rfl (lv_at hl 1 rfl) ?_
  obtain ⟨hi_9, hf⟩ := q_ck hf
  refine va_zald hx hb hK hP 1 2 rfl rfl hi_9 d_Model_must_29 ?_
  refine lv_iload_n hx hb d_Model_must_30 rfl (lv_at hl 2 rfl) ?_
  refine lv_icmp_ne (tgt := 36) hx hb d_Model_must_31 (by decide) (fun c_10 => ?_) (fun c_10 => ?_)
  · replace hf := q_ie hf c_10
    refine lv_aload_n hx hb d_Model_must_36 rfl (lv_at hl 0 rfl) ?_
    refine va_get (D := D) (ci := 8) (v := .ref (ad 36)) (C := R_Model) (T := F_Model) (N := 30) hx hb hts hn_Model hown hK hP 0 rfl rfl 10 (by decide) hL30 (fun _ h9 => h9) rfl d_Model_must_37 ?_
    refine lv_iload_n hx hb d_Model_must_40 rfl (lv_at hl 1 rfl) ?_
    refine lv_iload_n hx hb d_Model_must_41 rfl (lv_at hl 2 rfl) ?_
    obtain ⟨hi_11, hf⟩ := q_ck hf
    refine va_zast hx hb hK hP hD hS 1 2 rfl rfl hi_11 d_Model_must_42 (fun H locs hP hD hS => ?_)
    replace hP : va_P D vwCl [(ad 29, .inr (8, [.int 0, .int v_mod_steps, .ref (ad 30), .int v_mod_pipes, .ref (ad 31), .int v_mod_items, .ref (ad 32), .ref (ad 33), .ref (ad 34), .ref (ad 35), .ref (ad 36), .ref (ad 37), .ref (ad 38), .int v_mod_least, .int v_mod_most, .ref (ad 39), .ref (ad 40), .ref (ad 41), .ref (ad 42), .ref (ad 43), .ref (ad 44), .int (bI v_mod_hasPlan), .int v_mod_told, .ref (ad 45), .int v_mod_pieces, .ref (ad 46), .ref (ad 47), .ref (ad 48), .long v_mod_planWorth, .long v_mod_planCents])), (ad 36, .inl (ki 2, n_mmus, .inl (upd v_mmus (Int32.toNatClampNeg p1) (vp_nar .boolean (bI p2)))))] H := hP
    replace hD : va_D A [(ad 29, .inr (8, [.int 0, .int v_mod_steps, .ref (ad 30), .int v_mod_pipes, .ref (ad 31), .int v_mod_items, .ref (ad 32), .ref (ad 33), .ref (ad 34), .ref (ad 35), .ref (ad 36), .ref (ad 37), .ref (ad 38), .int v_mod_least, .int v_mod_most, .ref (ad 39), .ref (ad 40), .ref (ad 41), .ref (ad 42), .ref (ad 43), .ref (ad 44), .int (bI v_mod_hasPlan), .int v_mod_told, .ref (ad 45), .int v_mod_pieces, .ref (ad 46), .ref (ad 47), .ref (ad 48), .long v_mod_planWorth, .long v_mod_planCents])), (ad 36, .inl (ki 2, n_mmus, .inl (upd v_mmus (Int32.toNatClampNeg p1) (vp_nar .boolean (bI p2)))))] := hD
    refine lv_aload_n hx hb d_Model_must_43 rfl (lv_at hl 0 rfl) ?_
    obtain ⟨v_mod_hasPlan_12, hc_12, hf⟩ := q_mb hf
    have hC_12 : ([0] : List Nat).map (fun i => ([(ad 29, .inr (8, [.int 0, .int v_mod_steps, .ref (ad 30), .int v_mod_pipes, .ref (ad 31), .int v_mod_items, .ref (ad 32), .ref (ad 33), .ref (ad 34), .ref (ad 35), .ref (ad 36), .ref (ad 37), .ref (ad 38), .int v_mod_least, .int v_mod_most, .ref (ad 39), .ref (ad 40), .ref (ad 41), .ref (ad 42), .ref (ad 43), .ref (ad 44), .int (bI v_mod_hasPlan), .int v_mod_told, .ref (ad 45), .int v_mod_pieces, .ref (ad 46), .ref (ad 47), .ref (ad 48), .long v_mod_planWorth, .long v_mod_planCents])), (ad 36, .inl (ki 2, n_mmus, .inl (upd v_mmus (Int32.toNatClampNeg p1) (vp_nar .boolean (bI p2)))))] : va_W)[i]?) = ([(ad 29, .inr (8, [.int 0, .int v_mod_steps, .ref (ad 30), .int v_mod_pipes, .ref (ad 31), .int v_mod_items, .ref (ad 32), .ref (ad 33), .ref (ad 34), .ref (ad 35), .ref (ad 36), .ref (ad 37), .ref (ad 38), .int v_mod_least, .int v_mod_most, .ref (ad 39), .ref (ad 40), .ref (ad 41), .ref (ad 42), .ref (ad 43), .ref (ad 44), .int (bI v_mod_hasPlan), .int v_mod_told, .ref (ad 45), .int v_mod_pieces, .ref (ad 46), .ref (ad 47), .ref (ad 48), .long v_mod_planWorth, .long v_mod_planCents]))] : va_W).map some := rfl
    refine q_mcall3 (w1 := [(ad 29, .inr (8, [.int 0, .int v_mod_steps, .ref (ad 30), .int v_mod_pipes, .ref (ad 31), .int v_mod_items, .ref (ad 32), .ref (ad 33), .ref (ad 34), .ref (ad 35), .ref (ad 36), .ref (ad 37), .ref (ad 38), .int v_mod_least, .int v_mod_most, .ref (ad 39), .ref (ad 40), .ref (ad 41), .ref (ad 42), .ref (ad 43), .ref (ad 44), .int (bI v_mod_hasPlan_12), .int v_mod_told, .ref (ad 45), .int v_mod_pieces, .ref (ad 46), .ref (ad 47), .ref (ad 48), .long v_mod_planWorth, .long v_mod_planCents]))]) (ws' := [(ad 29, .inr (8, [.int 0, .int v_mod_steps, .ref (ad 30), .int v_mod_pipes, .ref (ad 31), .int v_mod_items, .ref (ad 32), .ref (ad 33), .ref (ad 34), .ref (ad 35), .ref (ad 36), .ref (ad 37), .ref (ad 38), .int v_mod_least, .int v_mod_most, .ref (ad 39), .ref (ad 40), .ref (ad 41), .ref (ad 42), .ref (ad 43), .ref (ad 44), .int (bI v_mod_hasPlan_12), .int v_mod_told, .ref (ad 45), .int v_mod_pieces, .ref (ad 46), .ref (ad 47), .ref (ad 48), .long v_mod_planWorth, .long v_mod_planCents])), (ad 36, .inl (ki 2, n_mmus, .inl (upd v_mmus (Int32.toNatClampNeg p1) (vp_nar .boolean (bI p2)))))]) (wc := [(ad 29, .inr (8, [.int 0, .int v_mod_steps, .ref (ad 30), .int v_mod_pipes, .ref (ad 31), .int v_mod_items, .ref (ad 32), .ref (ad 33), .ref (ad 34), .ref (ad 35), .ref (ad 36), .ref (ad 37), .ref (ad 38), .int v_mod_least, .int v_mod_most, .ref (ad 39), .ref (ad 40), .ref (ad 41), .ref (ad 42), .ref (ad 43), .ref (ad 44), .int (bI v_mod_hasPlan), .int v_mod_told, .ref (ad 45), .int v_mod_pieces, .ref (ad 46), .ref (ad 47), .ref (ad 48), .long v_mod_planWorth, .long v_mod_planCents]))]) (va_runV (As := []) (rest := []) ⟨hx, hb, hml, hown, hts⟩ (c_Model_change l D ad ki 0 v_mod_steps v_mod_pipes v_mod_items v_mod_least v_mod_most v_mod_hasPlan v_mod_told v_mod_pieces v_mod_planWorth v_mod_planCents N _ v_mod_hasPlan_12 hc_12) (cwV 0 hts (q_goodV ⟨m_942, m_944, m_31, m_64⟩ m_945) rfl rfl rfl (by decide +kernel) ⟨Nat.le_of_ble_eq_true rfl, Nat.le_of_ble_eq_true rfl⟩) (q_preVM3 hE hK hP hD (by decide +kernel) hC_12 0 8 rfl rfl) rfl rfl hl.1 rfl (lv_room (Nat.le_of_ble_eq_true rfl)) d_Model_must_44 ⟨Nat.le_of_ble_eq_true rfl, Nat.le_of_ble_eq_true rfl⟩) hP hD hS hA hC_12 [ad 29, ad 36] rfl rfl (fun H1 h1 hk => (q_c (h1 0 _ rfl) (q_c (hk 1 _ rfl (by decide)) q_n))) rfl (fun H locs hP hD hS => ?_)
    refine lv_iconst (v := 1) hx hb d_Model_must_47 (by decide) ?_
    cases hf
    exact W.zret (v := bI true) hx hb hr (bI_nar _) (fun t ht hW => ⟨rfl, by rw [ht]; exact hP, hS.F ht⟩) hS.2.2 d_Model_must_48
  replace hf := q_it hf c_10
  refine lv_iconst (v := 0) hx hb d_Model_must_34 (by decide) ?_
  cases hf
  exact W.zret (v := bI false) hx hb hr (bI_nar _) (fun t ht hW => ⟨rfl, by rw [ht]; exact hP, hS.F ht⟩) hS.2.2 d_Model_must_35
