def f_RoomFills_news (N : Nat) (v_room_toldCount : Int32) (p1 : Bool) : Option (Bool × Int32) := (if p1 = true then (some (p1, 0)) else (some (p1, v_room_toldCount)))
set_option maxRecDepth 100000 in
set_option maxHeartbeats 4000000 in
theorem c_RoomFills_news (l : Launch) (D : va_G) (ad : Nat → Nat) (ki : Nat → ClassId) (v_room_toldCount : Int32) (p1 : Bool) (N : Nat) (sz : Nat) (r : Bool) (ov_room_toldCount : Int32) (hf : f_RoomFills_news N v_room_toldCount p1 = some (r, ov_room_toldCount)) : Met l y_RoomFills_news w_RoomFills_news { frames := 0, cells := 0, slots := 0, locals := 0 } (q_PcM [.ref (ad 0), .int (bI p1)] D vwCl [(ad 0, .inr (0, [.ref (ad 2), .ref (ad 5), .ref (ad 13), .ref (ad 25), .ref (ad 27), .ref (ad 1), .int v_room_toldCount]))] (TYS ki) sz) (q_Qm (some (.int (bI r))) D vwCl [(ad 0, .inr (0, [.ref (ad 2), .ref (ad 5), .ref (ad 13), .ref (ad 25), .ref (ad 27), .ref (ad 1), .int ov_room_toldCount]))] (va_A [(ad 0, .inr (0, [.ref (ad 2), .ref (ad 5), .ref (ad 13), .ref (ad 25), .ref (ad 27), .ref (ad 1), .int v_room_toldCount]))] sz)) 0 0 (va_A [(ad 0, .inr (0, [.ref (ad 2), .ref (ad 5), .ref (ad 13), .ref (ad 25), .ref (ad 27), .ref (ad 1), .int v_room_toldCount]))] sz) := by
  refine Met.ofW (cc := b_RoomFills_news) (maxL := 2) (ret := (some .boolean)) (by decide) rfl ?_
  intro p e s m args below meth c s₁ B hml hv
  obtain ⟨rfl, hsz, hP, hK, hD0, hE⟩ := hv
  have hx := B.exec
  have hb := B.bytes
  have hr := B.returns
  have hts := atoms_spec (ws := w_RoomFills_news) B.pre
  have hown : s.vm.findClass R_RoomFills = some m.cls := findClass_of_methodNamed B.named
  have hlocks := B.notSynchronized
  have hn_RoomFills : ∀ w ∈ u_ws R_RoomFills F_RoomFills 7, w ∈ w_RoomFills_news := (fun w h => List.mem_cons_of_mem _ (i_RoomFills w h))
  have hL61 := hts (.fieldLink R_RoomFills 61 "RoomFills" "toldCount" "I") (List.mem_cons_of_mem _ m_325)
  subst hsz
  have hD := hD0.self (sz := s.heap.size)
  generalize hAe : va_A [(ad 0, .inr (0, [.ref (ad 2), .ref (ad 5), .ref (ad 13), .ref (ad 25), .ref (ad 27), .ref (ad 1), .int v_room_toldCount]))] s.heap.size = A at hD ⊢
  have hA : ∀ q : Nat, s.heap.size ≤ q → A q := fun q h => by rw [← hAe]; exact Or.inr h
  have hS : va_S A s.heap s.heap [] := va_S.rf
  replace hP : va_P D vwCl [(ad 0, .inr (0, [.ref (ad 2), .ref (ad 5), .ref (ad 13), .ref (ad 25), .ref (ad 27), .ref (ad 1), .int v_room_toldCount]))] s.heap := hP
  have hl := lv_entry ([.ref (ad 0), .int (bI p1)]) (n := 2) (Nat.le_of_ble_eq_true rfl)
  rw [lg_entry_eq]
  generalize (lg_sl ([.ref (ad 0), .int (bI p1)]) ++ List.replicate (2 - (lg_sl ([.ref (ad 0), .int (bI p1)])).length) Slot.unset).toArray = ls at hl ⊢
  replace hl : lv_has ls 2 [(0, .ref (ad 0)), (1, .int (bI p1))] := hl
  unfold f_RoomFills_news at hf
  refine lv_iload_n hx hb d_RoomFills_news_0 rfl (lv_at hl 1 rfl) ?_
  refine zv_eq (tgt := 9) hx hb d_RoomFills_news_1 (by decide) (fun c_1 => ?_) (fun c_1 => ?_)
  · replace hf := q_ie hf c_1
    refine lv_iload_n hx hb d_RoomFills_news_9 rfl (lv_at hl 1 rfl) ?_
    cases hf
    first | exact W.zret (v := bI p1) hx hb hr (bI_nar _) (fun t ht hW => ⟨rfl, by rw [ht]; exact hP, hS.F ht⟩) hS.2.2 d_RoomFills_news_10 | exact W.zret (v := bI r) hx hb hr (bI_nar _) (fun t ht hW => ⟨rfl, by rw [ht]; exact hP, hS.F ht⟩) hS.2.2 d_RoomFills_news_10
  replace hf := q_it hf c_1
  refine lv_aload_n hx hb d_RoomFills_news_4 rfl (lv_at hl 0 rfl) ?_
  refine lv_iconst (v := 0) hx hb d_RoomFills_news_5 (by decide) ?_
  refine va_put (D := D) (ci := 0) (v := .int 0) (ty := .int) (C := R_RoomFills) (T := F_RoomFills) (N := 7) hx hb hts hn_RoomFills t_RoomFills t_RoomFills_ok n_RoomFills hown hK hP hD hS 0 rfl rfl 6 (by decide) hL61 (fun _ h9 => h9) rfl (by decide +kernel) rfl rfl (Nat.le_of_ble_eq_true rfl) d_RoomFills_news_6 (fun H locs hP hD hS => ?_)
  replace hP : va_P D vwCl [(ad 0, .inr (0, [.ref (ad 2), .ref (ad 5), .ref (ad 13), .ref (ad 25), .ref (ad 27), .ref (ad 1), .int 0]))] H := hP
  replace hD : va_D A [(ad 0, .inr (0, [.ref (ad 2), .ref (ad 5), .ref (ad 13), .ref (ad 25), .ref (ad 27), .ref (ad 1), .int 0]))] := hD
  refine lv_iload_n hx hb d_RoomFills_news_9 rfl (lv_at hl 1 rfl) ?_
  cases hf
  first | exact W.zret (v := bI p1) hx hb hr (bI_nar _) (fun t ht hW => ⟨rfl, by rw [ht]; exact hP, hS.F ht⟩) hS.2.2 d_RoomFills_news_10 | exact W.zret (v := bI r) hx hb hr (bI_nar _) (fun t ht hW => ⟨rfl, by rw [ht]; exact hP, hS.F ht⟩) hS.2.2 d_RoomFills_news_10
def f_RoomFills_isMoney (N : Nat)  (p1 : Int64) : Option (Bool) := (if (lg_cmp p1 0) < 0 then (some false) else (if 0 < (lg_cmp p1 100000) then (some false) else (some true)))
set_option maxRecDepth 100000 in
set_option maxHeartbeats 4000000 in
theorem c_RoomFills_isMoney (l : Launch) (D : va_G) (ad : Nat → Nat) (ki : Nat → ClassId)  (p1 : Int64) (N : Nat) (r : Bool) (hf : f_RoomFills_isMoney N p1 = some r) : Met l y_RoomFills_isMoney w_RoomFills_isMoney { frames := 0, cells := 0, slots := 0, locals := 0 } (q_PcP [.long p1] D vwCl [] (TYS ki)) (k2_QcV (.int (bI r))) 0 0 (fun _ => False) := by
  refine Met.ofW (cc := b_RoomFills_isMoney) (maxL := 2) (ret := (some .boolean)) (by decide) rfl ?_
  intro p e s m args below meth c s₁ B hml hv
  obtain ⟨rfl, hP, hK, hE⟩ := hv
  have hx := B.exec
  have hb := B.bytes
  have hr := B.returns
  have hts := atoms_spec (ws := w_RoomFills_isMoney) B.pre
  have hown : s.vm.findClass R_RoomFills = some m.cls := findClass_of_methodNamed B.named
  have hlocks := B.notSynchronized
  have hL234 := hts (.constantLong R_RoomFills 234 (100000)) (List.mem_cons_of_mem _ m_687)
  replace hP : va_P D vwCl [] s.heap := hP
  have hl := lv_entry ([.long p1]) (n := 2) (Nat.le_of_ble_eq_true rfl)
  rw [lg_entry_eq]
  generalize (lg_sl ([.long p1]) ++ List.replicate (2 - (lg_sl ([.long p1])).length) Slot.unset).toArray = ls at hl ⊢
  replace hl : lv_has ls 2 [(0, .long p1)] := hl
  unfold f_RoomFills_isMoney at hf
  refine lv_lload_n hx hb d_RoomFills_isMoney_0 rfl (lv_at hl 0 rfl) ?_
  refine lv_lconst (v := 0) hx hb d_RoomFills_isMoney_1 (by decide) ?_
  refine W.lcmp hx hb d_RoomFills_isMoney_2 ?_
  refine lv_if_lt (tgt := 18) hx hb d_RoomFills_isMoney_3 (by decide) (fun c_1 => ?_) (fun c_1 => ?_)
  · replace hf := q_it hf c_1
    refine lv_iconst (v := 0) hx hb d_RoomFills_isMoney_18 (by decide) ?_
    cases hf
    exact W.zret (v := bI false) hx hb hr (bI_nar _) (fun t ht hW => ⟨rfl, ht⟩) (fun q h => nomatch h) d_RoomFills_isMoney_19
  replace hf := q_ie hf c_1
  refine lv_lload_n hx hb d_RoomFills_isMoney_6 rfl (lv_at hl 0 rfl) ?_
  refine lv_ldc2 (v := 100000) hx hb hown hL234 d_RoomFills_isMoney_7 ?_
  refine W.lcmp hx hb d_RoomFills_isMoney_10 ?_
  refine lv_if_gt (tgt := 18) hx hb d_RoomFills_isMoney_11 (by decide) (fun c_2 => ?_) (fun c_2 => ?_)
  · replace hf := q_it hf c_2
    refine lv_iconst (v := 0) hx hb d_RoomFills_isMoney_18 (by decide) ?_
    cases hf
    exact W.zret (v := bI false) hx hb hr (bI_nar _) (fun t ht hW => ⟨rfl, ht⟩) (fun q h => nomatch h) d_RoomFills_isMoney_19
  replace hf := q_ie hf c_2
  refine lv_iconst (v := 1) hx hb d_RoomFills_isMoney_14 (by decide) ?_
  refine lv_goto (tgt := 19) hx hb d_RoomFills_isMoney_15 (by decide) ?_
  cases hf
  exact W.zret (v := bI true) hx hb hr (bI_nar _) (fun t ht hW => ⟨rfl, ht⟩) (fun q h => nomatch h) d_RoomFills_isMoney_19
def f_RoomFills_hasItem (N : Nat)  (p1 : Int32) (p2 : Int32) : Option (Bool) := (if (p1 &&& (1 <<< (p2 &&& 31))) = 0 then (some false) else (some true))
set_option maxRecDepth 100000 in
set_option maxHeartbeats 4000000 in
theorem c_RoomFills_hasItem (l : Launch) (D : va_G) (ad : Nat → Nat) (ki : Nat → ClassId)  (p1 : Int32) (p2 : Int32) (N : Nat) (r : Bool) (hf : f_RoomFills_hasItem N p1 p2 = some r) : Met l y_RoomFills_hasItem w_RoomFills_hasItem { frames := 0, cells := 0, slots := 0, locals := 0 } (q_PcP [.int p1, .int p2] D vwCl [] (TYS ki)) (k2_QcV (.int (bI r))) 0 0 (fun _ => False) := by
  refine Met.ofW (cc := b_RoomFills_hasItem) (maxL := 2) (ret := (some .boolean)) (by decide) rfl ?_
  intro p e s m args below meth c s₁ B hml hv
  obtain ⟨rfl, hP, hK, hE⟩ := hv
  have hx := B.exec
  have hb := B.bytes
  have hr := B.returns
  have hts := atoms_spec (ws := w_RoomFills_hasItem) B.pre
  have hown : s.vm.findClass R_RoomFills = some m.cls := findClass_of_methodNamed B.named
  have hlocks := B.notSynchronized
  replace hP : va_P D vwCl [] s.heap := hP
  have hl := lv_entry ([.int p1, .int p2]) (n := 2) (Nat.le_of_ble_eq_true rfl)
  rw [lg_entry_eq]
  generalize (lg_sl ([.int p1, .int p2]) ++ List.replicate (2 - (lg_sl ([.int p1, .int p2])).length) Slot.unset).toArray = ls at hl ⊢
  replace hl : lv_has ls 2 [(0, .int p1), (1, .int p2)] := hl
  unfold f_RoomFills_hasItem at hf
  refine lv_iload_n hx hb d_RoomFills_hasItem_0 rfl (lv_at hl 0 rfl) ?_
  refine lv_iconst (v := 1) hx hb d_RoomFills_hasItem_1 (by decide) ?_
  refine lv_iload_n hx hb d_RoomFills_hasItem_2 rfl (lv_at hl 1 rfl) ?_
  refine lv_ishl hx hb d_RoomFills_hasItem_3 ?_
  refine lv_iand hx hb d_RoomFills_hasItem_4 ?_
  refine lv_if_eq (tgt := 12) hx hb d_RoomFills_hasItem_5 (by decide) (fun c_1 => ?_) (fun c_1 => ?_)
  · replace hf := q_it hf c_1
    refine lv_iconst (v := 0) hx hb d_RoomFills_hasItem_12 (by decide) ?_
    cases hf
    exact W.zret (v := bI false) hx hb hr (bI_nar _) (fun t ht hW => ⟨rfl, ht⟩) (fun q h => nomatch h) d_RoomFills_hasItem_13
  replace hf := q_ie hf c_1
  refine lv_iconst (v := 1) hx hb d_RoomFills_hasItem_8 (by decide) ?_
  refine lv_goto (tgt := 13) hx hb d_RoomFills_hasItem_9 (by decide) ?_
  cases hf
  exact W.zret (v := bI true) hx hb hr (bI_nar _) (fun t ht hW => ⟨rfl, ht⟩) (fun q h => nomatch h) d_RoomFills_hasItem_13
