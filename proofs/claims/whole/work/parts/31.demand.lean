def f_RoomFills_demandPlan (N : Nat) (v_room_toldCount : Int32)  : Option (Nat) := (if v_room_toldCount = 0 then (some 1) else (some 0))
set_option maxRecDepth 100000 in
set_option maxHeartbeats 4000000 in
theorem c_RoomFills_demandPlan (l : Launch) (hl9 : l.stackTraces = false) (D : va_G) (ad : Nat → Nat) (ki : Nat → ClassId) (v_room_toldCount : Int32)  (N : Nat) (ec : Nat) (hf : f_RoomFills_demandPlan N v_room_toldCount = some ec) : q_MX l y_RoomFills_demandPlan w_RoomFills_demandPlan { frames := 6, cells := 1, slots := 6, locals := 140 } (q_PcPX [.ref (ad 0)] D vwCl [(ad 0, .inr (0, [.ref (ad 2), .ref (ad 5), .ref (ad 13), .ref (ad 25), .ref (ad 27), .ref (ad 1), .int v_room_toldCount]))] (TYS ki)) (q_QrP ec (none)) (q_Qx ec) 1 6 (fun _ => False) := by
  refine q_ofWX (cc := b_RoomFills_demandPlan) (maxL := 1) (ret := none) (by decide) rfl ?_
  intro p e s m args below meth c s₁ B hml hout hv
  obtain ⟨rfl, hP, hK, hE, hZ⟩ := hv
  have hx := B.exec
  have hb := B.bytes
  have hr := B.returns
  have hts := atoms_spec (ws := w_RoomFills_demandPlan) B.pre
  have hown : s.vm.findClass R_RoomFills = some m.cls := findClass_of_methodNamed B.named
  have hlocks := B.notSynchronized
  have hn_RoomFills : ∀ w ∈ u_ws R_RoomFills F_RoomFills 7, w ∈ w_RoomFills_demandPlan := (fun w h => List.mem_cons_of_mem _ (i_RoomFills w h))
  have hL61 := hts (.fieldLink R_RoomFills 61 "RoomFills" "toldCount" "I") (List.mem_cons_of_mem _ m_325)
  replace hP : va_P D vwCl [(ad 0, .inr (0, [.ref (ad 2), .ref (ad 5), .ref (ad 13), .ref (ad 25), .ref (ad 27), .ref (ad 1), .int v_room_toldCount]))] s.heap := hP
  have hl := lv_entry ([.ref (ad 0)]) (n := 1) (Nat.le_of_ble_eq_true rfl)
  rw [lg_entry_eq]
  generalize (lg_sl ([.ref (ad 0)]) ++ List.replicate (1 - (lg_sl ([.ref (ad 0)])).length) Slot.unset).toArray = ls at hl ⊢
  replace hl : lv_has ls 1 [(0, .ref (ad 0))] := hl
  unfold f_RoomFills_demandPlan at hf
  refine lv_aload_n hx hb d_RoomFills_demandPlan_0 rfl (lv_at hl 0 rfl) ?_
  refine va_get (D := D) (ci := 0) (v := .int v_room_toldCount) (C := R_RoomFills) (T := F_RoomFills) (N := 7) hx hb hts hn_RoomFills hown hK hP 0 rfl rfl 6 (by decide) hL61 (fun _ h9 => h9) rfl d_RoomFills_demandPlan_1 ?_
  refine lv_if_ne (tgt := 17) hx hb d_RoomFills_demandPlan_4 (by decide) (fun c_1 => ?_) (fun c_1 => ?_)
  · replace hf := q_ie hf c_1
    cases hf
    exact q_retX (Nat.le_of_ble_eq_true rfl) (Nat.le_of_ble_eq_true rfl) (W.vret hx hb hr (fun t ht hW => ⟨rfl, rfl, ht⟩) (fun q h => nomatch h) d_RoomFills_demandPlan_17)
  replace hf := q_it hf c_1
  cases hf
  exact (by obtain ⟨sa, hsa⟩ := hE.2.1 (228, "no plan") (by decide +kernel); exact q_throw (own := R_RoomFills) (cls := "java/lang/IllegalStateException") (names := ["java/lang/RuntimeException", "java/lang/Exception"]) hx hb hl9 hown (by decide +kernel) (by decide +kernel) (hts (.classLink R_RoomFills 95 "java/lang/IllegalStateException") (List.mem_cons_of_mem _ m_668)) (hts (.initialized "java/lang/IllegalStateException") (List.mem_cons_of_mem _ m_69)) (hts (.instantiable "java/lang/IllegalStateException" 6) (List.mem_cons_of_mem _ m_669)) hsa (q_hat q_at1 (fun w h => hts w (List.mem_cons_of_mem _ h)) hE hZ) (hl.1.trans hml.symm) d_RoomFills_demandPlan_7 d_RoomFills_demandPlan_10 d_RoomFills_demandPlan_11 d_RoomFills_demandPlan_13 d_RoomFills_demandPlan_16 hout (Nat.le_of_ble_eq_true rfl) (Nat.le_of_ble_eq_true rfl) (Nat.le_of_ble_eq_true rfl) (Nat.le_of_ble_eq_true rfl) hlocks (fun q t hq => ⟨by decide, hq⟩) (Nat.le_of_ble_eq_true rfl) (Nat.le_of_ble_eq_true rfl))
def f_RoomFills_demandItem (N : Nat) (v_room_toldCount : Int32) (v_items_mustSet : Int32) (v_items_count : Int32) (p1 : Int32) : Option (Nat) := (if p1 < 0 then (some 3) else (if p1 < v_items_count then (some 0) else (some 3)))
set_option maxRecDepth 100000 in
set_option maxHeartbeats 4000000 in
theorem c_RoomFills_demandItem (l : Launch) (hl9 : l.stackTraces = false) (D : va_G) (ad : Nat → Nat) (ki : Nat → ClassId) (v_room_toldCount : Int32) (v_items_mustSet : Int32) (v_items_count : Int32) (p1 : Int32) (N : Nat) (ec : Nat) (hf : f_RoomFills_demandItem N v_room_toldCount v_items_mustSet v_items_count p1 = some ec) : q_MX l y_RoomFills_demandItem w_RoomFills_demandItem { frames := 6, cells := 1, slots := 6, locals := 140 } (q_PcPX [.ref (ad 0), .int p1] D vwCl [(ad 0, .inr (0, [.ref (ad 2), .ref (ad 5), .ref (ad 13), .ref (ad 25), .ref (ad 27), .ref (ad 1), .int v_room_toldCount])), (ad 5, .inr (2, [.ref (ad 6), .ref (ad 7), .ref (ad 8), .ref (ad 9), .ref (ad 10), .ref (ad 11), .ref (ad 12), .int v_items_mustSet, .int v_items_count]))] (TYS ki)) (q_QrP ec (none)) (q_Qx ec) 1 6 (fun _ => False) := by
  refine q_ofWX (cc := b_RoomFills_demandItem) (maxL := 2) (ret := none) (by decide) rfl ?_
  intro p e s m args below meth c s₁ B hml hout hv
  obtain ⟨rfl, hP, hK, hE, hZ⟩ := hv
  have hx := B.exec
  have hb := B.bytes
  have hr := B.returns
  have hts := atoms_spec (ws := w_RoomFills_demandItem) B.pre
  have hown : s.vm.findClass R_RoomFills = some m.cls := findClass_of_methodNamed B.named
  have hlocks := B.notSynchronized
  have hn_RoomFills : ∀ w ∈ u_ws R_RoomFills F_RoomFills 7, w ∈ w_RoomFills_demandItem := (fun w h => List.mem_cons_of_mem _ (i_RoomFills w h))
  have hn_Items : ∀ w ∈ u_ws R_Items F_Items 9, w ∈ w_RoomFills_demandItem := (fun w h => List.mem_cons_of_mem _ (i_Items w h))
  have hL30 := hts (.fieldLink R_RoomFills 30 "RoomFills" "items" "LRoomFills$Items;") (List.mem_cons_of_mem _ m_320)
  have hL92 := hts (.fieldLink R_RoomFills 92 "RoomFills$Items" "count" "I") (List.mem_cons_of_mem _ m_141)
  replace hP : va_P D vwCl [(ad 0, .inr (0, [.ref (ad 2), .ref (ad 5), .ref (ad 13), .ref (ad 25), .ref (ad 27), .ref (ad 1), .int v_room_toldCount])), (ad 5, .inr (2, [.ref (ad 6), .ref (ad 7), .ref (ad 8), .ref (ad 9), .ref (ad 10), .ref (ad 11), .ref (ad 12), .int v_items_mustSet, .int v_items_count]))] s.heap := hP
  have hl := lv_entry ([.ref (ad 0), .int p1]) (n := 2) (Nat.le_of_ble_eq_true rfl)
  rw [lg_entry_eq]
  generalize (lg_sl ([.ref (ad 0), .int p1]) ++ List.replicate (2 - (lg_sl ([.ref (ad 0), .int p1])).length) Slot.unset).toArray = ls at hl ⊢
  replace hl : lv_has ls 2 [(0, .ref (ad 0)), (1, .int p1)] := hl
  unfold f_RoomFills_demandItem at hf
  refine lv_iload_n hx hb d_RoomFills_demandItem_0 rfl (lv_at hl 1 rfl) ?_
  refine lv_if_lt (tgt := 15) hx hb d_RoomFills_demandItem_1 (by decide) (fun c_1 => ?_) (fun c_1 => ?_)
  · replace hf := q_it hf c_1
    cases hf
    exact (by obtain ⟨sa, hsa⟩ := hE.2.1 (230, "no such item") (by decide +kernel); exact q_throw (own := R_RoomFills) (cls := "java/lang/IndexOutOfBoundsException") (names := ["java/lang/RuntimeException", "java/lang/Exception"]) hx hb hl9 hown (by decide +kernel) (by decide +kernel) (hts (.classLink R_RoomFills 170 "java/lang/IndexOutOfBoundsException") (List.mem_cons_of_mem _ m_705)) (hts (.initialized "java/lang/IndexOutOfBoundsException") (List.mem_cons_of_mem _ m_70)) (hts (.instantiable "java/lang/IndexOutOfBoundsException" 6) (List.mem_cons_of_mem _ m_706)) hsa (q_hat q_at3 (fun w h => hts w (List.mem_cons_of_mem _ h)) hE hZ) (hl.1.trans hml.symm) d_RoomFills_demandItem_15 d_RoomFills_demandItem_18 d_RoomFills_demandItem_19 d_RoomFills_demandItem_21 d_RoomFills_demandItem_24 hout (Nat.le_of_ble_eq_true rfl) (Nat.le_of_ble_eq_true rfl) (Nat.le_of_ble_eq_true rfl) (Nat.le_of_ble_eq_true rfl) hlocks (fun q t hq => ⟨by decide, hq⟩) (Nat.le_of_ble_eq_true rfl) (Nat.le_of_ble_eq_true rfl))
  replace hf := q_ie hf c_1
  refine lv_iload_n hx hb d_RoomFills_demandItem_4 rfl (lv_at hl 1 rfl) ?_
  refine lv_aload_n hx hb d_RoomFills_demandItem_5 rfl (lv_at hl 0 rfl) ?_
  refine va_get (D := D) (ci := 0) (v := .ref (ad 5)) (C := R_RoomFills) (T := F_RoomFills) (N := 7) hx hb hts hn_RoomFills hown hK hP 0 rfl rfl 1 (by decide) hL30 (fun _ h9 => h9) rfl d_RoomFills_demandItem_6 ?_
  refine va_get (D := D) (ci := 2) (v := .int v_items_count) (C := R_Items) (T := F_Items) (N := 9) hx hb hts hn_Items hown hK hP 1 rfl rfl 8 (by decide) hL92 (fun _ h9 => h9) rfl d_RoomFills_demandItem_9 ?_
  refine lv_icmp_lt (tgt := 25) hx hb d_RoomFills_demandItem_12 (by decide) (fun c_2 => ?_) (fun c_2 => ?_)
  · replace hf := q_it hf c_2
    cases hf
    exact q_retX (Nat.le_of_ble_eq_true rfl) (Nat.le_of_ble_eq_true rfl) (W.vret hx hb hr (fun t ht hW => ⟨rfl, rfl, ht⟩) (fun q h => nomatch h) d_RoomFills_demandItem_25)
  replace hf := q_ie hf c_2
  cases hf
  exact (by obtain ⟨sa, hsa⟩ := hE.2.1 (230, "no such item") (by decide +kernel); exact q_throw (own := R_RoomFills) (cls := "java/lang/IndexOutOfBoundsException") (names := ["java/lang/RuntimeException", "java/lang/Exception"]) hx hb hl9 hown (by decide +kernel) (by decide +kernel) (hts (.classLink R_RoomFills 170 "java/lang/IndexOutOfBoundsException") (List.mem_cons_of_mem _ m_705)) (hts (.initialized "java/lang/IndexOutOfBoundsException") (List.mem_cons_of_mem _ m_70)) (hts (.instantiable "java/lang/IndexOutOfBoundsException" 6) (List.mem_cons_of_mem _ m_706)) hsa (q_hat q_at3 (fun w h => hts w (List.mem_cons_of_mem _ h)) hE hZ) (hl.1.trans hml.symm) d_RoomFills_demandItem_15 d_RoomFills_demandItem_18 d_RoomFills_demandItem_19 d_RoomFills_demandItem_21 d_RoomFills_demandItem_24 hout (Nat.le_of_ble_eq_true rfl) (Nat.le_of_ble_eq_true rfl) (Nat.le_of_ble_eq_true rfl) (Nat.le_of_ble_eq_true rfl) hlocks (fun q t hq => ⟨by decide, hq⟩) (Nat.le_of_ble_eq_true rfl) (Nat.le_of_ble_eq_true rfl))
def f_RoomFills_demandPair (N : Nat) (v_room_toldCount : Int32) (v_items_mustSet : Int32) (v_items_count : Int32) (p1 : Int32) (p2 : Int32) : Option (Nat) := (Option.bind (f_RoomFills_demandItem N v_room_toldCount v_items_mustSet v_items_count p1) (fun e_1 => (if e_1 = 0 then (Option.bind (f_RoomFills_demandItem N v_room_toldCount v_items_mustSet v_items_count p2) (fun e_2 => (if e_2 = 0 then (if p1 = p2 then (some 2) else (some 0)) else (some e_2)))) else (some e_1))))
set_option maxRecDepth 100000 in
set_option maxHeartbeats 4000000 in
theorem c_RoomFills_demandPair (l : Launch) (hl9 : l.stackTraces = false) (D : va_G) (ad : Nat → Nat) (ki : Nat → ClassId) (v_room_toldCount : Int32) (v_items_mustSet : Int32) (v_items_count : Int32) (p1 : Int32) (p2 : Int32) (N : Nat) (ec : Nat) (hf : f_RoomFills_demandPair N v_room_toldCount v_items_mustSet v_items_count p1 p2 = some ec) : q_MX l y_RoomFills_demandPair w_RoomFills_demandPair { frames := 7, cells := 3, slots := 18, locals := 161 } (q_PcPX [.ref (ad 0), .int p1, .int p2] D vwCl [(ad 0, .inr (0, [.ref (ad 2), .ref (ad 5), .ref (ad 13), .ref (ad 25), .ref (ad 27), .ref (ad 1), .int v_room_toldCount])), (ad 5, .inr (2, [.ref (ad 6), .ref (ad 7), .ref (ad 8), .ref (ad 9), .ref (ad 10), .ref (ad 11), .ref (ad 12), .int v_items_mustSet, .int v_items_count]))] (TYS ki)) (q_QrP ec (none)) (q_Qx ec) 3 18 (fun _ => False) := by
  refine q_ofWX (cc := b_RoomFills_demandPair) (maxL := 3) (ret := none) (by decide) rfl ?_
  intro p e s m args below meth c s₁ B hml hout hv
  obtain ⟨rfl, hP, hK, hE, hZ⟩ := hv
  have hx := B.exec
  have hb := B.bytes
  have hr := B.returns
  have hts := atoms_spec (ws := w_RoomFills_demandPair) B.pre
  have hown : s.vm.findClass R_RoomFills = some m.cls := findClass_of_methodNamed B.named
  have hlocks := B.notSynchronized
  replace hP : va_P D vwCl [(ad 0, .inr (0, [.ref (ad 2), .ref (ad 5), .ref (ad 13), .ref (ad 25), .ref (ad 27), .ref (ad 1), .int v_room_toldCount])), (ad 5, .inr (2, [.ref (ad 6), .ref (ad 7), .ref (ad 8), .ref (ad 9), .ref (ad 10), .ref (ad 11), .ref (ad 12), .int v_items_mustSet, .int v_items_count]))] s.heap := hP
  have hl := lv_entry ([.ref (ad 0), .int p1, .int p2]) (n := 3) (Nat.le_of_ble_eq_true rfl)
  rw [lg_entry_eq]
  generalize (lg_sl ([.ref (ad 0), .int p1, .int p2]) ++ List.replicate (3 - (lg_sl ([.ref (ad 0), .int p1, .int p2])).length) Slot.unset).toArray = ls at hl ⊢
  replace hl : lv_has ls 3 [(0, .ref (ad 0)), (1, .int p1), (2, .int p2)] := hl
  unfold f_RoomFills_demandPair at hf
  refine lv_aload_n hx hb d_RoomFills_demandPair_0 rfl (lv_at hl 0 rfl) ?_
  refine lv_iload_n hx hb d_RoomFills_demandPair_1 rfl (lv_at hl 1 rfl) ?_
  obtain ⟨e_1, hc_1, hf⟩ := q_mb hf
  refine q_dcall (As := [.int p1]) (rest := []) ⟨hx, hb, hml, hown, hts⟩ (c_RoomFills_demandItem l hl9 D ad ki v_room_toldCount v_items_mustSet v_items_count p1 N e_1 hc_1) (cwV 1 hts (q_goodV ⟨m_701, m_703, m_28, m_54⟩ m_704) rfl rfl rfl (by decide +kernel) ⟨Nat.le_of_ble_eq_true rfl, Nat.le_of_ble_eq_true rfl⟩) (q_preVPX (wc := [(ad 0, .inr (0, [.ref (ad 2), .ref (ad 5), .ref (ad 13), .ref (ad 25), .ref (ad 27), .ref (ad 1), .int v_room_toldCount])), (ad 5, .inr (2, [.ref (ad 6), .ref (ad 7), .ref (ad 8), .ref (ad 9), .ref (ad 10), .ref (ad 11), .ref (ad 12), .int v_items_mustSet, .int v_items_count]))]) hE hZ hK hP [0, 1] rfl 0 0 rfl rfl) rfl hl.1 rfl (lv_room (Nat.le_of_ble_eq_true rfl)) d_RoomFills_demandPair_2 ⟨Nat.le_of_ble_eq_true rfl, Nat.le_of_ble_eq_true rfl⟩ hout hlocks (Nat.le_of_ble_eq_true rfl) (Nat.le_of_ble_eq_true rfl) rfl (fun c_1 q t hq => ?_) (fun c_1 => ?_)
  · replace hf := q_ie hf c_1
    cases hf
    exact ⟨c_1, hq⟩
  replace hf := q_it hf c_1
  refine lv_aload_n hx hb d_RoomFills_demandPair_5 rfl (lv_at hl 0 rfl) ?_
  refine lv_iload_n hx hb d_RoomFills_demandPair_6 rfl (lv_at hl 2 rfl) ?_
  obtain ⟨e_2, hc_2, hf⟩ := q_mb hf
  refine q_dcall (As := [.int p2]) (rest := []) ⟨hx, hb, hml, hown, hts⟩ (c_RoomFills_demandItem l hl9 D ad ki v_room_toldCount v_items_mustSet v_items_count p2 N e_2 hc_2) (cwV 1 hts (q_goodV ⟨m_701, m_703, m_28, m_54⟩ m_704) rfl rfl rfl (by decide +kernel) ⟨Nat.le_of_ble_eq_true rfl, Nat.le_of_ble_eq_true rfl⟩) (q_preVPX (wc := [(ad 0, .inr (0, [.ref (ad 2), .ref (ad 5), .ref (ad 13), .ref (ad 25), .ref (ad 27), .ref (ad 1), .int v_room_toldCount])), (ad 5, .inr (2, [.ref (ad 6), .ref (ad 7), .ref (ad 8), .ref (ad 9), .ref (ad 10), .ref (ad 11), .ref (ad 12), .int v_items_mustSet, .int v_items_count]))]) hE hZ hK hP [0, 1] rfl 0 0 rfl rfl) rfl hl.1 rfl (lv_room (Nat.le_of_ble_eq_true rfl)) d_RoomFills_demandPair_7 ⟨Nat.le_of_ble_eq_true rfl, Nat.le_of_ble_eq_true rfl⟩ hout hlocks (Nat.le_of_ble_eq_true rfl) (Nat.le_of_ble_eq_true rfl) rfl (fun c_2 q t hq => ?_) (fun c_2 => ?_)
  · replace hf := q_ie hf c_2
    cases hf
    exact ⟨c_2, hq⟩
  replace hf := q_it hf c_2
  refine lv_iload_n hx hb d_RoomFills_demandPair_10 rfl (lv_at hl 1 rfl) ?_
  refine lv_iload_n hx hb d_RoomFills_demandPair_11 rfl (lv_at hl 2 rfl) ?_
  refine lv_icmp_ne (tgt := 25) hx hb d_RoomFills_demandPair_12 (by decide) (fun c_3 => ?_) (fun c_3 => ?_)
  · replace hf := q_ie hf c_3
    cases hf
    exact q_retX (Nat.le_of_ble_eq_true rfl) (Nat.le_of_ble_eq_true rfl) (W.vret hx hb hr (fun t ht hW => ⟨rfl, rfl, ht⟩) (fun q h => nomatch h) d_RoomFills_demandPair_25)
  replace hf := q_it hf c_3
  cases hf
  exact (by obtain ⟨sa, hsa⟩ := hE.2.1 (232, "both are one item") (by decide +kernel); exact q_throw (own := R_RoomFills) (cls := "java/lang/IllegalArgumentException") (names := ["java/lang/RuntimeException", "java/lang/Exception"]) hx hb hl9 hown (by decide +kernel) (by decide +kernel) (hts (.classLink R_RoomFills 72 "java/lang/IllegalArgumentException") (List.mem_cons_of_mem _ m_571)) (hts (.initialized "java/lang/IllegalArgumentException") (List.mem_cons_of_mem _ m_68)) (hts (.instantiable "java/lang/IllegalArgumentException" 6) (List.mem_cons_of_mem _ m_572)) hsa (q_hat q_at2 (fun w h => hts w (List.mem_cons_of_mem _ h)) hE hZ) (hl.1.trans hml.symm) d_RoomFills_demandPair_15 d_RoomFills_demandPair_18 d_RoomFills_demandPair_19 d_RoomFills_demandPair_21 d_RoomFills_demandPair_24 hout (Nat.le_of_ble_eq_true rfl) (Nat.le_of_ble_eq_true rfl) (Nat.le_of_ble_eq_true rfl) (Nat.le_of_ble_eq_true rfl) hlocks (fun q t hq => ⟨by decide, hq⟩) (Nat.le_of_ble_eq_true rfl) (Nat.le_of_ble_eq_true rfl))
