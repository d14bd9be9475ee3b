def f_Row_put (N : Nat) (n_rbeg : Nat) (v_rbeg : Nat → Int32) (p1 : Int32) (p2 : Int32) : Option (Bool × (Nat → Int32)) := (if p1 < 0 ∨ n_rbeg ≤ Int32.toNatClampNeg p1 then none else (if (v_rbeg (Int32.toNatClampNeg p1)) = p2 then (if p1 < 0 ∨ n_rbeg ≤ Int32.toNatClampNeg p1 then none else (some (false, (upd v_rbeg (Int32.toNatClampNeg p1) p2)))) else (if p1 < 0 ∨ n_rbeg ≤ Int32.toNatClampNeg p1 then none else (some (true, (upd v_rbeg (Int32.toNatClampNeg p1) p2))))))
set_option maxRecDepth 100000 in
set_option maxHeartbeats 4000000 in
theorem c_Row_put (l : Launch) (D : va_G) (ad : Nat → Nat) (ki : Nat → ClassId) (n_rbeg : Nat) (v_rbeg : Nat → Int32) (p1 : Int32) (p2 : Int32) (N : Nat) (sz : Nat) (r : Bool) (ov_rbeg : Nat → Int32) (hf : f_Row_put N n_rbeg v_rbeg p1 p2 = some (r, ov_rbeg)) : Met l y_Row_put w_Row_put { frames := 0, cells := 0, slots := 0, locals := 0 } (q_PcM [.ref (ad 27), .int p1, .int p2] D vwCl [(ad 27, .inr (7, [.ref (ad 2), .ref (ad 5), .ref (ad 13), .ref (ad 28)])), (ad 28, .inl (ki 0, n_rbeg, .inl v_rbeg))] (TYS ki) sz) (q_Qm (some (.int (bI r))) D vwCl [(ad 27, .inr (7, [.ref (ad 2), .ref (ad 5), .ref (ad 13), .ref (ad 28)])), (ad 28, .inl (ki 0, n_rbeg, .inl ov_rbeg))] (va_A [(ad 27, .inr (7, [.ref (ad 2), .ref (ad 5), .ref (ad 13), .ref (ad 28)])), (ad 28, .inl (ki 0, n_rbeg, .inl v_rbeg))] sz)) 0 0 (va_A [(ad 27, .inr (7, [.ref (ad 2), .ref (ad 5), .ref (ad 13), .ref (ad 28)])), (ad 28, .inl (ki 0, n_rbeg, .inl v_rbeg))] sz) := by
  refine Met.ofW (cc := b_Row_put) (maxL := 4) (ret := (some .boolean)) (by decide) rfl ?_
  intro p e s m args below meth c s₁ B hml hv
  obtain ⟨rfl, hsz, hP, hK, hD0, hE⟩ := hv
  have hx := B.exec
  have hb := B.bytes
  have hr := B.returns
  have hts := atoms_spec (ws := w_Row_put) B.pre
  have hown : s.vm.findClass R_Row = some m.cls := findClass_of_methodNamed B.named
  have hlocks := B.notSynchronized
  have hn_Row : ∀ w ∈ u_ws R_Row F_Row 4, w ∈ w_Row_put := (fun w h => List.mem_cons_of_mem _ (i_Row w h))
  have hL23 := hts (.fieldLink R_Row 23 "RoomFills$Row" "begin" "[I") (List.mem_cons_of_mem _ m_309)
  subst hsz
  have hD := hD0.self (sz := s.heap.size)
  generalize hAe : va_A [(ad 27, .inr (7, [.ref (ad 2), .ref (ad 5), .ref (ad 13), .ref (ad 28)])), (ad 28, .inl (ki 0, n_rbeg, .inl v_rbeg))] s.heap.size = A at hD ⊢
  have hA : ∀ q : Nat, s.heap.size ≤ q → A q := fun q h => by rw [← hAe]; exact Or.inr h
  have hS : va_S A s.heap s.heap [] := va_S.rf
  replace hP : va_P D vwCl [(ad 27, .inr (7, [.ref (ad 2), .ref (ad 5), .ref (ad 13), .ref (ad 28)])), (ad 28, .inl (ki 0, n_rbeg, .inl v_rbeg))] s.heap := hP
  have hl := lv_entry ([.ref (ad 27), .int p1, .int p2]) (n := 4) (Nat.le_of_ble_eq_true rfl)
  rw [lg_entry_eq]
  generalize (lg_sl ([.ref (ad 27), .int p1, .int p2]) ++ List.replicate (4 - (lg_sl ([.ref (ad 27), .int p1, .int p2])).length) Slot.unset).toArray = ls at hl ⊢
  replace hl : lv_has ls 4 [(0, .ref (ad 27)), (1, .int p1), (2, .int p2)] := hl
  unfold f_Row_put at hf
  refine lv_aload_n hx hb d_Row_put_0 rfl (lv_at hl 0 rfl) ?_
  refine va_get (D := D) (ci := 7) (v := .ref (ad 28)) (C := R_Row) (T := F_Row) (N := 4) hx hb hts hn_Row hown hK hP 0 rfl rfl 3 (by decide) hL23 (fun _ h9 => h9) rfl d_Row_put_1 ?_
  refine lv_iload_n hx hb d_Row_put_4 rfl (lv_at hl 1 rfl) ?_
  obtain ⟨hi_1, hf⟩ := q_ck hf
  refine va_iald hx hb hK hP 1 0 rfl rfl hi_1 d_Row_put_5 ?_
  refine lv_iload_n hx hb d_Row_put_6 rfl (lv_at hl 2 rfl) ?_
  refine lv_icmp_eq (tgt := 14) hx hb d_Row_put_7 (by decide) (fun c_2 => ?_) (fun c_2 => ?_)
  · replace hf := q_it hf c_2
    refine lv_iconst (v := 0) hx hb d_Row_put_14 (by decide) ?_
    refine lv_istore_n (lv' := [(3, .int (bI false)), (0, .ref (ad 27)), (1, .int p1), (2, .int p2)]) hx hb d_Row_put_15 rfl hl (by decide) rfl (fun ls hl => ?_)
    refine lv_aload_n hx hb d_Row_put_16 rfl (lv_at hl 1 rfl) ?_
    refine va_get (D := D) (ci := 7) (v := .ref (ad 28)) (C := R_Row) (T := F_Row) (N := 4) hx hb hts hn_Row hown hK hP 0 rfl rfl 3 (by decide) hL23 (fun _ h9 => h9) rfl d_Row_put_17 ?_
    refine lv_iload_n hx hb d_Row_put_20 rfl (lv_at hl 2 rfl) ?_
    refine lv_iload_n hx hb d_Row_put_21 rfl (lv_at hl 3 rfl) ?_
    obtain ⟨hi_3, hf⟩ := q_ck hf
    refine va_iast hx hb hK hP hD hS 1 0 rfl rfl hi_3 d_Row_put_22 (fun H locs hP hD hS => ?_)
    replace hP : va_P D vwCl [(ad 27, .inr (7, [.ref (ad 2), .ref (ad 5), .ref (ad 13), .ref (ad 28)])), (ad 28, .inl (ki 0, n_rbeg, .inl (upd v_rbeg (Int32.toNatClampNeg p1) p2)))] H := hP
    replace hD : va_D A [(ad 27, .inr (7, [.ref (ad 2), .ref (ad 5), .ref (ad 13), .ref (ad 28)])), (ad 28, .inl (ki 0, n_rbeg, .inl (upd v_rbeg (Int32.toNatClampNeg p1) p2)))] := hD
    refine lv_iload_n hx hb d_Row_put_23 rfl (lv_at hl 0 rfl) ?_
    cases hf
    exact W.zret (v := bI false) hx hb hr (bI_nar _) (fun t ht hW => ⟨rfl, by rw [ht]; exact hP, hS.F ht⟩) hS.2.2 d_Row_put_24
  replace hf := q_ie hf c_2
  refine lv_iconst (v := 1) hx hb d_Row_put_10 (by decide) ?_
  refine lv_goto (tgt := 15) hx hb d_Row_put_11 (by decide) ?_
  refine lv_istore_n (lv' := [(3, .int (bI true)), (0, .ref (ad 27)), (1, .int p1), (2, .int p2)]) hx hb d_Row_put_15 rfl hl (by decide) rfl (fun ls hl => ?_)
  refine lv_aload_n hx hb d_Row_put_16 rfl (lv_at hl 1 rfl) ?_
  refine va_get (D := D) (ci := 7) (v := .ref (ad 28)) (C := R_Row) (T := F_Row) (N := 4) hx hb hts hn_Row hown hK hP 0 rfl rfl 3 (by decide) hL23 (fun _ h9 => h9) rfl d_Row_put_17 ?_
  refine lv_iload_n hx hb d_Row_put_20 rfl (lv_at hl 2 rfl) ?_
  refine lv_iload_n hx hb d_Row_put_21 rfl (lv_at hl 3 rfl) ?_
  obtain ⟨hi_4, hf⟩ := q_ck hf
  refine va_iast hx hb hK hP hD hS 1 0 rfl rfl hi_4 d_Row_put_22 (fun H locs hP hD hS => ?_)
  replace hP : va_P D vwCl [(ad 27, .inr (7, [.ref (ad 2), .ref (ad 5), .ref (ad 13), .ref (ad 28)])), (ad 28, .inl (ki 0, n_rbeg, .inl (upd v_rbeg (Int32.toNatClampNeg p1) p2)))] H := hP
  replace hD : va_D A [(ad 27, .inr (7, [.ref (ad 2), .ref (ad 5), .ref (ad 13), .ref (ad 28)])), (ad 28, .inl (ki 0, n_rbeg, .inl (upd v_rbeg (Int32.toNatClampNeg p1) p2)))] := hD
  refine lv_iload_n hx hb d_Row_put_23 rfl (lv_at hl 0 rfl) ?_
  cases hf
  exact W.zret (v := bI true) hx hb hr (bI_nar _) (fun t ht hW => ⟨rfl, by rw [ht]; exact hP, hS.F ht⟩) hS.2.2 d_Row_put_24
def f_Row_isPut (N : Nat) (n_rbeg : Nat) (v_rbeg : Nat → Int32) (p1 : Int32) : Option (Bool) := (if p1 < 0 ∨ n_rbeg ≤ Int32.toNatClampNeg p1 then none else (if (v_rbeg (Int32.toNatClampNeg p1)) = ((-101) : Int32) then (some false) else (some true)))
set_option maxRecDepth 100000 in
set_option maxHeartbeats 4000000 in
theorem c_Row_isPut (l : Launch) (D : va_G) (ad : Nat → Nat) (ki : Nat → ClassId) (n_rbeg : Nat) (v_rbeg : Nat → Int32) (p1 : Int32) (N : Nat) (r : Bool) (hf : f_Row_isPut N n_rbeg v_rbeg p1 = some r) : Met l y_Row_isPut w_Row_isPut { frames := 0, cells := 0, slots := 0, locals := 0 } (q_PcP [.ref (ad 27), .int p1] D vwCl [(ad 27, .inr (7, [.ref (ad 2), .ref (ad 5), .ref (ad 13), .ref (ad 28)])), (ad 28, .inl (ki 0, n_rbeg, .inl v_rbeg))] (TYS ki)) (k2_QcV (.int (bI r))) 0 0 (fun _ => False) := by
  refine Met.ofW (cc := b_Row_isPut) (maxL := 2) (ret := (some .boolean)) (by decide) rfl ?_
  intro p e s m args below meth c s₁ B hml hv
  obtain ⟨rfl, hP, hK, hE⟩ := hv
  have hx := B.exec
  have hb := B.bytes
  have hr := B.returns
  have hts := atoms_spec (ws := w_Row_isPut) B.pre
  have hown : s.vm.findClass R_Row = some m.cls := findClass_of_methodNamed B.named
  have hlocks := B.notSynchronized
  have hn_Row : ∀ w ∈ u_ws R_Row F_Row 4, w ∈ w_Row_isPut := (fun w h => List.mem_cons_of_mem _ (i_Row w h))
  have hL23 := hts (.fieldLink R_Row 23 "RoomFills$Row" "begin" "[I") (List.mem_cons_of_mem _ m_309)
  replace hP : va_P D vwCl [(ad 27, .inr (7, [.ref (ad 2), .ref (ad 5), .ref (ad 13), .ref (ad 28)])), (ad 28, .inl (ki 0, n_rbeg, .inl v_rbeg))] s.heap := hP
  have hl := lv_entry ([.ref (ad 27), .int p1]) (n := 2) (Nat.le_of_ble_eq_true rfl)
  rw [lg_entry_eq]
  generalize (lg_sl ([.ref (ad 27), .int p1]) ++ List.replicate (2 - (lg_sl ([.ref (ad 27), .int p1])).length) Slot.unset).toArray = ls at hl ⊢
  replace hl : lv_has ls 2 [(0, .ref (ad 27)), (1, .int p1)] := hl
  unfold f_Row_isPut at hf
  refine lv_aload_n hx hb d_Row_isPut_0 rfl (lv_at hl 0 rfl) ?_
  refine va_get (D := D) (ci := 7) (v := .ref (ad 28)) (C := R_Row) (T := F_Row) (N := 4) hx hb hts hn_Row hown hK hP 0 rfl rfl 3 (by decide) hL23 (fun _ h9 => h9) rfl d_Row_isPut_1 ?_
  refine lv_iload_n hx hb d_Row_isPut_4 rfl (lv_at hl 1 rfl) ?_
  obtain ⟨hi_1, hf⟩ := q_ck hf
  refine va_iald hx hb hK hP 1 0 rfl rfl hi_1 d_Row_isPut_5 ?_
  refine lv_bipush (v := (-101)) hx hb d_Row_isPut_6 (by decide) ?_
  refine lv_icmp_eq (tgt := 15) hx hb d_Row_isPut_8 (by decide) (fun c_2 => ?_) (fun c_2 => ?_)
  · replace hf := q_it hf c_2
    refine lv_iconst (v := 0) hx hb d_Row_isPut_15 (by decide) ?_
    cases hf
    exact W.zret (v := bI false) hx hb hr (bI_nar _) (fun t ht hW => ⟨rfl, ht⟩) (fun q h => nomatch h) d_Row_isPut_16
  replace hf := q_ie hf c_2
  refine lv_iconst (v := 1) hx hb d_Row_isPut_11 (by decide) ?_
  refine lv_goto (tgt := 16) hx hb d_Row_isPut_12 (by decide) ?_
  cases hf
  exact W.zret (v := bI true) hx hb hr (bI_nar _) (fun t ht hW => ⟨rfl, ht⟩) (fun q h => nomatch h) d_Row_isPut_16
def f_Row_putSet_cut (N : Nat) (n_rbeg : Nat) (v_items_mustSet : Int32) (v_items_count : Int32) (v_rbeg : Nat → Int32) : Nat → Nat → Int32 → Int32 → Option (Int32)
  | 0, _, _, _ => none
  | n + 1, t, x1, x2 => (if v_items_count ≤ x2 then (some x1) else (Option.bind (f_Row_isPut N n_rbeg v_rbeg x2) (fun r_2 => (if r_2 = true then (f_Row_putSet_cut N n_rbeg v_items_mustSet v_items_count v_rbeg n 0 (x1 ||| (1 <<< (x2 &&& 31))) (x2 + 1)) else (f_Row_putSet_cut N n_rbeg v_items_mustSet v_items_count v_rbeg n 0 x1 (x2 + 1))))))
theorem f_Row_putSet_cut_0 (N : Nat) (n_rbeg : Nat) (v_items_mustSet : Int32) (v_items_count : Int32) (v_rbeg : Nat → Int32) (n : Nat) (x1 : Int32) (x2 : Int32) : f_Row_putSet_cut N n_rbeg v_items_mustSet v_items_count v_rbeg (n + 1) 0 x1 x2 = (if v_items_count ≤ x2 then (some x1) else (Option.bind (f_Row_isPut N n_rbeg v_rbeg x2) (fun r_2 => (if r_2 = true then (f_Row_putSet_cut N n_rbeg v_items_mustSet v_items_count v_rbeg n 0 (x1 ||| (1 <<< (x2 &&& 31))) (x2 + 1)) else (f_Row_putSet_cut N n_rbeg v_items_mustSet v_items_count v_rbeg n 0 x1 (x2 + 1)))))) := rfl
def f_Row_putSet (N : Nat) (n_rbeg : Nat) (v_items_mustSet : Int32) (v_items_count : Int32) (v_rbeg : Nat → Int32)  : Option (Int32) := (f_Row_putSet_cut N n_rbeg v_items_mustSet v_items_count v_rbeg N 0 0 0)
set_option maxRecDepth 100000 in
set_option maxHeartbeats 4000000 in
theorem c_Row_putSet (l : Launch) (D : va_G) (ad : Nat → Nat) (ki : Nat → ClassId) (n_rbeg : Nat) (v_items_mustSet : Int32) (v_items_count : Int32) (v_rbeg : Nat → Int32)  (N : Nat) (r : Int32) (hf : f_Row_putSet N n_rbeg v_items_mustSet v_items_count v_rbeg = some r) : Met l y_Row_putSet w_Row_putSet { frames := 1, cells := 0, slots := 0, locals := 21 } (q_PcP [.ref (ad 27)] D vwCl [(ad 5, .inr (2, [.ref (ad 6), .ref (ad 7), .ref (ad 8), .ref (ad 9), .ref (ad 10), .ref (ad 11), .ref (ad 12), .int v_items_mustSet, .int v_items_count])), (ad 27, .inr (7, [.ref (ad 2), .ref (ad 5), .ref (ad 13), .ref (ad 28)])), (ad 28, .inl (ki 0, n_rbeg, .inl v_rbeg))] (TYS ki)) (k2_QcV (.int r)) 0 0 (fun _ => False) := by
  refine Met.ofW (cc := b_Row_putSet) (maxL := 3) (ret := (some .int)) (by decide) rfl ?_
  intro p e s m args below meth c s₁ B hml hv
  obtain ⟨rfl, hP, hK, hE⟩ := hv
  have hx := B.exec
  have hb := B.bytes
  have hr := B.returns
  have hts := atoms_spec (ws := w_Row_putSet) B.pre
  have hown : s.vm.findClass R_Row = some m.cls := findClass_of_methodNamed B.named
  have hlocks := B.notSynchronized
  have hn_Items : ∀ w ∈ u_ws R_Items F_Items 9, w ∈ w_Row_putSet := (fun w h => List.mem_cons_of_mem _ (i_Items w h))
  have hn_Row : ∀ w ∈ u_ws R_Row F_Row 4, w ∈ w_Row_putSet := (fun w h => List.mem_cons_of_mem _ (i_Row w h))
  have hL15 := hts (.fieldLink R_Row 15 "RoomFills$Row" "items" "LRoomFills$Items;") (List.mem_cons_of_mem _ m_307)
  have hL66 := hts (.fieldLink R_Row 66 "RoomFills$Items" "count" "I") (List.mem_cons_of_mem _ m_142)
  replace hP : va_P D vwCl [(ad 5, .inr (2, [.ref (ad 6), .ref (ad 7), .ref (ad 8), .ref (ad 9), .ref (ad 10), .ref (ad 11), .ref (ad 12), .int v_items_mustSet, .int v_items_count])), (ad 27, .inr (7, [.ref (ad 2), .ref (ad 5), .ref (ad 13), .ref (ad 28)])), (ad 28, .inl (ki 0, n_rbeg, .inl v_rbeg))] s.heap := hP
  have hl := lv_entry ([.ref (ad 27)]) (n := 3) (Nat.le_of_ble_eq_true rfl)
  rw [lg_entry_eq]
  generalize (lg_sl ([.ref (ad 27)]) ++ List.replicate (3 - (lg_sl ([.ref (ad 27)])).length) Slot.unset).toArray = ls at hl ⊢
  replace hl : lv_has ls 3 [(0, .ref (ad 27))] := hl
  have key : ∀ n : Nat, (∀ (x1 : Int32) (x2 : Int32), f_Row_putSet_cut N n_rbeg v_items_mustSet v_items_count v_rbeg n 0 x1 x2 = some r → ∀ (ls : Array Slot), lv_has ls 3 [(0, .ref (ad 27)), (1, .int x1), (2, .int x2)] → W p l e (headSpec w_Row_putSet { frames := 1, cells := 0, slots := 0, locals := 21 }).room s m ([.ref (ad 27)] : List Value).toArray below meth c s.heap [] 0 0 (MQ below (k2_QcV (.int r)) ([.ref (ad 27)] : List Value).toArray s 0 0 (fun _ => False)) (F0 m 4 ls [])) := by
    intro n
    induction n with
    | zero =>
      exact fun x1 x2 hf => (nomatch (show none = some _ from hf))
    | succ n ih =>
      intro x1 x2 hf ls hl
      rw [f_Row_putSet_cut_0] at hf
      refine lv_iload_n hx hb d_Row_putSet_4 rfl (lv_at hl 2 rfl) ?_
      refine lv_aload_n hx hb d_Row_putSet_5 rfl (lv_at hl 0 rfl) ?_
      refine va_get (D := D) (ci := 7) (v := .ref (ad 5)) (C := R_Row) (T := F_Row) (N := 4) hx hb hts hn_Row hown hK hP 1 rfl rfl 1 (by decide) hL15 (fun _ h9 => h9) rfl d_Row_putSet_6 ?_
      refine va_get (D := D) (ci := 2) (v := .int v_items_count) (C := R_Items) (T := F_Items) (N := 9) hx hb hts hn_Items hown hK hP 0 rfl rfl 8 (by decide) hL66 (fun _ h9 => h9) rfl d_Row_putSet_9 ?_
      refine lv_icmp_ge (tgt := 35) hx hb d_Row_putSet_12 (by decide) (fun c_1 => ?_) (fun c_1 => ?_)
      · replace hf := q_it hf c_1
        refine lv_iload_n hx hb d_Row_putSet_35 rfl (lv_at hl 1 rfl) ?_
        cases hf
        first | exact W.iret (v := x1) hx hb hr (fun t ht hW => ⟨rfl, ht⟩) (fun q h => nomatch h) d_Row_putSet_36 | exact W.iret (v := r) hx hb hr (fun t ht hW => ⟨rfl, ht⟩) (fun q h => nomatch h) d_Row_putSet_36
      replace hf := q_ie hf c_1
      refine lv_aload_n hx hb d_Row_putSet_15 rfl (lv_at hl 0 rfl) ?_
      refine lv_iload_n hx hb d_Row_putSet_16 rfl (lv_at hl 2 rfl) ?_
      obtain ⟨r_2, hc_2, hf⟩ := q_mb hf
      refine q_pcall (W.runV (As := [.int x2]) (rest := []) ⟨hx, hb, hml, hown, hts⟩ (c_Row_isPut l D ad ki n_rbeg v_rbeg x2 N r_2 hc_2) (cwV 1 hts (q_goodV ⟨m_492, m_494, m_14, m_62⟩ m_495) rfl rfl rfl (by decide +kernel) ⟨Nat.le_of_ble_eq_true rfl, Nat.le_of_ble_eq_true rfl⟩) (q_preVP (wc := [(ad 27, .inr (7, [.ref (ad 2), .ref (ad 5), .ref (ad 13), .ref (ad 28)])), (ad 28, .inl (ki 0, n_rbeg, .inl v_rbeg))]) hE hK hP [1, 2] rfl 1 7 rfl rfl) rfl rfl hl.1 rfl (lv_room (Nat.le_of_ble_eq_true rfl)) d_Row_putSet_17 ⟨Nat.le_of_ble_eq_true rfl, Nat.le_of_ble_eq_true rfl⟩) ?_
      refine zv_eq (tgt := 29) hx hb d_Row_putSet_20 (by decide) (fun c_3 => ?_) (fun c_3 => ?_)
      · replace hf := q_ie hf c_3
        refine lv_iinc (v := (x2 + 1)) (lv' := [(2, .int (x2 + 1)), (0, .ref (ad 27)), (1, .int x1)]) hx hb d_Row_putSet_29 hl (k := 2) rfl rfl (by decide) rfl (fun ls hl => ?_)
        refine lv_goto (tgt := 4) hx hb d_Row_putSet_32 (by decide) ?_
        exact (ih) x1 (x2 + 1) hf ls (lv_sub hl [1, 2, 0] rfl)
      replace hf := q_it hf c_3
      refine lv_iload_n hx hb d_Row_putSet_23 rfl (lv_at hl 1 rfl) ?_
      refine lv_iconst (v := 1) hx hb d_Row_putSet_24 (by decide) ?_
      refine lv_iload_n hx hb d_Row_putSet_25 rfl (lv_at hl 2 rfl) ?_
      refine lv_ishl hx hb d_Row_putSet_26 ?_
      refine lv_ior hx hb d_Row_putSet_27 ?_
      refine lv_istore_n (lv' := [(1, .int (x1 ||| (1 <<< (x2 &&& 31)))), (0, .ref (ad 27)), (2, .int x2)]) hx hb d_Row_putSet_28 rfl hl (by decide) rfl (fun ls hl => ?_)
      refine lv_iinc (v := (x2 + 1)) (lv' := [(2, .int (x2 + 1)), (1, .int (x1 ||| (1 <<< (x2 &&& 31)))), (0, .ref (ad 27))]) hx hb d_Row_putSet_29 hl (k := 2) rfl rfl (by decide) rfl (fun ls hl => ?_)
      refine lv_goto (tgt := 4) hx hb d_Row_putSet_32 (by decide) ?_
      exact (ih) (x1 ||| (1 <<< (x2 &&& 31))) (x2 + 1) hf ls (lv_sub hl [2, 1, 0] rfl)
  unfold f_Row_putSet at hf
  refine lv_iconst (v := 0) hx hb d_Row_putSet_0 (by decide) ?_
  refine lv_istore_n (lv' := [(1, .int 0), (0, .ref (ad 27))]) hx hb d_Row_putSet_1 rfl hl (by decide) rfl (fun ls hl => ?_)
  refine lv_iconst (v := 0) hx hb d_Row_putSet_2 (by decide) ?_
  refine lv_istore_n (lv' := [(2, .int 0), (1, .int 0), (0, .ref (ad 27))]) hx hb d_Row_putSet_3 rfl hl (by decide) rfl (fun ls hl => ?_)
  exact (key N) 0 0 hf ls (lv_sub hl [2, 1, 0] rfl)
def f_Row_endOf (N : Nat) (n_iwid : Nat) (n_rbeg : Nat) (v_items_mustSet : Int32) (v_items_count : Int32) (v_iwid : Nat → Int32) (v_rbeg : Nat → Int32) (p1 : Int32) : Option (Int32) := (if p1 < 0 ∨ n_rbeg ≤ Int32.toNatClampNeg p1 then none else (if p1 < 0 ∨ n_iwid ≤ Int32.toNatClampNeg p1 then none else (some ((v_rbeg (Int32.toNatClampNeg p1)) + (v_iwid (Int32.toNatClampNeg p1))))))
set_option maxRecDepth 100000 in
set_option maxHeartbeats 4000000 in
theorem c_Row_endOf (l : Launch) (D : va_G) (ad : Nat → Nat) (ki : Nat → ClassId) (n_iwid : Nat) (n_rbeg : Nat) (v_items_mustSet : Int32) (v_items_count : Int32) (v_iwid : Nat → Int32) (v_rbeg : Nat → Int32) (p1 : Int32) (N : Nat) (r : Int32) (hf : f_Row_endOf N n_iwid n_rbeg v_items_mustSet v_items_count v_iwid v_rbeg p1 = some r) : Met l y_Row_endOf w_Row_endOf { frames := 0, cells := 0, slots := 0, locals := 0 } (q_PcP [.ref (ad 27), .int p1] D vwCl [(ad 5, .inr (2, [.ref (ad 6), .ref (ad 7), .ref (ad 8), .ref (ad 9), .ref (ad 10), .ref (ad 11), .ref (ad 12), .int v_items_mustSet, .int v_items_count])), (ad 6, .inl (ki 0, n_iwid, .inl v_iwid)), (ad 27, .inr (7, [.ref (ad 2), .ref (ad 5), .ref (ad 13), .ref (ad 28)])), (ad 28, .inl (ki 0, n_rbeg, .inl v_rbeg))] (TYS ki)) (k2_QcV (.int r)) 0 0 (fun _ => False) := by
  refine Met.ofW (cc := b_Row_endOf) (maxL := 2) (ret := (some .int)) (by decide) rfl ?_
  intro p e s m args below meth c s₁ B hml hv
  obtain ⟨rfl, hP, hK, hE⟩ := hv
  have hx := B.exec
  have hb := B.bytes
  have hr := B.returns
  have hts := atoms_spec (ws := w_Row_endOf) B.pre
  have hown : s.vm.findClass R_Row = some m.cls := findClass_of_methodNamed B.named
  have hlocks := B.notSynchronized
  have hn_Items : ∀ w ∈ u_ws R_Items F_Items 9, w ∈ w_Row_endOf := (fun w h => List.mem_cons_of_mem _ (i_Items w h))
  have hn_Row : ∀ w ∈ u_ws R_Row F_Row 4, w ∈ w_Row_endOf := (fun w h => List.mem_cons_of_mem _ (i_Row w h))
  have hL15 := hts (.fieldLink R_Row 15 "RoomFills$Row" "items" "LRoomFills$Items;") (List.mem_cons_of_mem _ m_307)
  have hL23 := hts (.fieldLink R_Row 23 "RoomFills$Row" "begin" "[I") (List.mem_cons_of_mem _ m_309)
  have hL81 := hts (.fieldLink R_Row 81 "RoomFills$Items" "width" "[I") (List.mem_cons_of_mem _ m_122)
  replace hP : va_P D vwCl [(ad 5, .inr (2, [.ref (ad 6), .ref (ad 7), .ref (ad 8), .ref (ad 9), .ref (ad 10), .ref (ad 11), .ref (ad 12), .int v_items_mustSet, .int v_items_count])), (ad 6, .inl (ki 0, n_iwid, .inl v_iwid)), (ad 27, .inr (7, [.ref (ad 2), .ref (ad 5), .ref (ad 13), .ref (ad 28)])), (ad 28, .inl (ki 0, n_rbeg, .inl v_rbeg))] s.heap := hP
  have hl := lv_entry ([.ref (ad 27), .int p1]) (n := 2) (Nat.le_of_ble_eq_true rfl)
  rw [lg_entry_eq]
  generalize (lg_sl ([.ref (ad 27), .int p1]) ++ List.replicate (2 - (lg_sl ([.ref (ad 27), .int p1])).length) Slot.unset).toArray = ls at hl ⊢
  replace hl : lv_has ls 2 [(0, .ref (ad 27)), (1, .int p1)] := hl
  unfold f_Row_endOf at hf
  refine lv_aload_n hx hb d_Row_endOf_0 rfl (lv_at hl 0 rfl) ?_
  refine va_get (D := D) (ci := 7) (v := .ref (ad 28)) (C := R_Row) (T := F_Row) (N := 4) hx hb hts hn_Row hown hK hP 2 rfl rfl 3 (by decide) hL23 (fun _ h9 => h9) rfl d_Row_endOf_1 ?_
  refine lv_iload_n hx hb d_Row_endOf_4 rfl (lv_at hl 1 rfl) ?_
  obtain ⟨hi_1, hf⟩ := q_ck hf
  refine va_iald hx hb hK hP 3 0 rfl rfl hi_1 d_Row_endOf_5 ?_
  refine lv_aload_n hx hb d_Row_endOf_6 rfl (lv_at hl 0 rfl) ?_
  refine va_get (D := D) (ci := 7) (v := .ref (ad 5)) (C := R_Row) (T := F_Row) (N := 4) hx hb hts hn_Row hown hK hP 2 rfl rfl 1 (by decide) hL15 (fun _ h9 => h9) rfl d_Row_endOf_7 ?_
  refine va_get (D := D) (ci := 2) (v := .ref (ad 6)) (C := R_Items) (T := F_Items) (N := 9) hx hb hts hn_Items hown hK hP 0 rfl rfl 0 (by decide) hL81 (fun _ h9 => h9) rfl d_Row_endOf_10 ?_
  refine lv_iload_n hx hb d_Row_endOf_13 rfl (lv_at hl 1 rfl) ?_
  obtain ⟨hi_2, hf⟩ := q_ck hf
  refine va_iald hx hb hK hP 1 0 rfl rfl hi_2 d_Row_endOf_14 ?_
  refine lv_iadd hx hb d_Row_endOf_15 ?_
  cases hf
  exact W.iret (v := ((v_rbeg (Int32.toNatClampNeg p1)) + (v_iwid (Int32.toNatClampNeg p1)))) hx hb hr (fun t ht hW => ⟨rfl, ht⟩) (fun q h => nomatch h) d_Row_endOf_16
def f_Row_doTouch (N : Nat) (n_iwid : Nat) (n_rbeg : Nat) (v_items_mustSet : Int32) (v_items_count : Int32) (v_iwid : Nat → Int32) (v_rbeg : Nat → Int32) (p1 : Int32) (p2 : Int32) : Option (Bool) := (Option.bind (f_Row_isPut N n_rbeg v_rbeg p1) (fun r_1 => (if r_1 = true then (Option.bind (f_Row_isPut N n_rbeg v_rbeg p2) (fun r_3 => (if r_3 = true then (Option.bind (f_Row_endOf N n_iwid n_rbeg v_items_mustSet v_items_count v_iwid v_rbeg p1) (fun r_5 => (if p2 < 0 ∨ n_rbeg ≤ Int32.toNatClampNeg p2 then none else (if r_5 = (v_rbeg (Int32.toNatClampNeg p2)) then (some true) else (Option.bind (f_Row_endOf N n_iwid n_rbeg v_items_mustSet v_items_count v_iwid v_rbeg p2) (fun r_8 => (if p1 < 0 ∨ n_rbeg ≤ Int32.toNatClampNeg p1 then none else (if r_8 = (v_rbeg (Int32.toNatClampNeg p1)) then (some true) else (some false))))))))) else (some false)))) else (some false))))
set_option maxRecDepth 100000 in
set_option maxHeartbeats 4000000 in
theorem c_Row_doTouch (l : Launch) (D : va_G) (ad : Nat → Nat) (ki : Nat → ClassId) (n_iwid : Nat) (n_rbeg : Nat) (v_items_mustSet : Int32) (v_items_count : Int32) (v_iwid : Nat → Int32) (v_rbeg : Nat → Int32) (p1 : Int32) (p2 : Int32) (N : Nat) (r : Bool) (hf : f_Row_doTouch N n_iwid n_rbeg v_items_mustSet v_items_count v_iwid v_rbeg p1 p2 = some r) : Met l y_Row_doTouch w_Row_doTouch { frames := 1, cells := 0, slots := 0, locals := 21 } (q_PcP [.ref (ad 27), .int p1, .int p2] D vwCl [(ad 5, .inr (2, [.ref (ad 6), .ref (ad 7), .ref (ad 8), .ref (ad 9), .ref (ad 10), .ref (ad 11), .ref (ad 12), .int v_items_mustSet, .int v_items_count])), (ad 6, .inl (ki 0, n_iwid, .inl v_iwid)), (ad 27, .inr (7, [.ref (ad 2), .ref (ad 5), .ref (ad 13), .ref (ad 28)])), (ad 28, .inl (ki 0, n_rbeg, .inl v_rbeg))] (TYS ki)) (k2_QcV (.int (bI r))) 0 0 (fun _ => False) := by
  refine Met.ofW (cc := b_Row_doTouch) (maxL := 3) (ret := (some .boolean)) (by decide) rfl ?_
  intro p e s m args below meth c s₁ B hml hv
  obtain ⟨rfl, hP, hK, hE⟩ := hv
  have hx := B.exec
  have hb := B.bytes
  have hr := B.returns
  have hts := atoms_spec (ws := w_Row_doTouch) B.pre
  have hown : s.vm.findClass R_Row = some m.cls := findClass_of_methodNamed B.named
  have hlocks := B.notSynchronized
  have hn_Row : ∀ w ∈ u_ws R_Row F_Row 4, w ∈ w_Row_doTouch := (fun w h => List.mem_cons_of_mem _ (i_Row w h))
  have hL23 := hts (.fieldLink R_Row 23 "RoomFills$Row" "begin" "[I") (List.mem_cons_of_mem _ m_309)
  replace hP : va_P D vwCl [(ad 5, .inr (2, [.ref (ad 6), .ref (ad 7), .ref (ad 8), .ref (ad 9), .ref (ad 10), .ref (ad 11), .ref (ad 12), .int v_items_mustSet, .int v_items_count])), (ad 6, .inl (ki 0, n_iwid, .inl v_iwid)), (ad 27, .inr (7, [.ref (ad 2), .ref (ad 5), .ref (ad 13), .ref (ad 28)])), (ad 28, .inl (ki 0, n_rbeg, .inl v_rbeg))] s.heap := hP
  have hl := lv_entry ([.ref (ad 27), .int p1, .int p2]) (n := 3) (Nat.le_of_ble_eq_true rfl)
  rw [lg_entry_eq]
  generalize (lg_sl ([.ref (ad 27), .int p1, .int p2]) ++ List.replicate (3 - (lg_sl ([.ref (ad 27), .int p1, .int p2])).length) Slot.unset).toArray = ls at hl ⊢
  replace hl : lv_has ls 3 [(0, .ref (ad 27)), (1, .int p1), (2, .int p2)] := hl
  unfold f_Row_doTouch at hf
  refine lv_aload_n hx hb d_Row_doTouch_0 rfl (lv_at hl 0 rfl) ?_
  refine lv_iload_n hx hb d_Row_doTouch_1 rfl (lv_at hl 1 rfl) ?_
  obtain ⟨r_1, hc_1, hf⟩ := q_mb hf
  refine q_pcall (W.runV (As := [.int p1]) (rest := []) ⟨hx, hb, hml, hown, hts⟩ (c_Row_isPut l D ad ki n_rbeg v_rbeg p1 N r_1 hc_1) (cwV 1 hts (q_goodV ⟨m_492, m_494, m_14, m_62⟩ m_495) rfl rfl rfl (by decide +kernel) ⟨Nat.le_of_ble_eq_true rfl, Nat.le_of_ble_eq_true rfl⟩) (q_preVP (wc := [(ad 27, .inr (7, [.ref (ad 2), .ref (ad 5), .ref (ad 13), .ref (ad 28)])), (ad 28, .inl (ki 0, n_rbeg, .inl v_rbeg))]) hE hK hP [2, 3] rfl 2 7 rfl rfl) rfl rfl hl.1 rfl (lv_room (Nat.le_of_ble_eq_true rfl)) d_Row_doTouch_2 ⟨Nat.le_of_ble_eq_true rfl, Nat.le_of_ble_eq_true rfl⟩) ?_
  refine zv_eq (tgt := 48) hx hb d_Row_doTouch_5 (by decide) (fun c_2 => ?_) (fun c_2 => ?_)
  · replace hf := q_ie hf c_2
    refine lv_iconst (v := 0) hx hb d_Row_doTouch_48 (by decide) ?_
    cases hf
    exact W.zret (v := bI false) hx hb hr (bI_nar _) (fun t ht hW => ⟨rfl, ht⟩) (fun q h => nomatch h) d_Row_doTouch_49
  replace hf := q_it hf c_2
  refine lv_aload_n hx hb d_Row_doTouch_8 rfl (lv_at hl 0 rfl) ?_
  refine lv_iload_n hx hb d_Row_doTouch_9 rfl (lv_at hl 2 rfl) ?_
  obtain ⟨r_3, hc_3, hf⟩ := q_mb hf
  refine q_pcall (W.runV (As := [.int p2]) (rest := []) ⟨hx, hb, hml, hown, hts⟩ (c_Row_isPut l D ad ki n_rbeg v_rbeg p2 N r_3 hc_3) (cwV 1 hts (q_goodV ⟨m_492, m_494, m_14, m_62⟩ m_495) rfl rfl rfl (by decide +kernel) ⟨Nat.le_of_ble_eq_true rfl, Nat.le_of_ble_eq_true rfl⟩) (q_preVP (wc := [(ad 27, .inr (7, [.ref (ad 2), .ref (ad 5), .ref (ad 13), .ref (ad 28)])), (ad 28, .inl (ki 0, n_rbeg, .inl v_rbeg))]) hE hK hP [2, 3] rfl 2 7 rfl rfl) rfl rfl hl.1 rfl (lv_room (Nat.le_of_ble_eq_true rfl)) d_Row_doTouch_10 ⟨Nat.le_of_ble_eq_true rfl, Nat.le_of_ble_eq_true rfl⟩) ?_
  refine zv_eq (tgt := 48) hx hb d_Row_doTouch_13 (by decide) (fun c_4 => ?_) (fun c_4 => ?_)
  · replace hf := q_ie hf c_4
    refine lv_iconst (v := 0) hx hb d_Row_doTouch_48 (by decide) ?_
    cases hf
    exact W.zret (v := bI false) hx hb hr (bI_nar _) (fun t ht hW => ⟨rfl, ht⟩) (fun q h => nomatch h) d_Row_doTouch_49
  replace hf := q_it hf c_4
  refine lv_aload_n hx hb d_Row_doTouch_16 rfl (lv_at hl 0 rfl) ?_
  refine lv_iload_n hx hb d_Row_doTouch_17 rfl (lv_at hl 1 rfl) ?_
  obtain ⟨r_5, hc_5, hf⟩ := q_mb hf
  refine q_pcall (W.runV (As := [.int p1]) (rest := []) ⟨hx, hb, hml, hown, hts⟩ (c_Row_endOf l D ad ki n_iwid n_rbeg v_items_mustSet v_items_count v_iwid v_rbeg p1 N r_5 hc_5) (cwV 1 hts (q_goodV ⟨m_508, m_510, m_17, m_62⟩ m_511) rfl rfl rfl (by decide +kernel) ⟨Nat.le_of_ble_eq_true rfl, Nat.le_of_ble_eq_true rfl⟩) (q_preVP (wc := [(ad 5, .inr (2, [.ref (ad 6), .ref (ad 7), .ref (ad 8), .ref (ad 9), .ref (ad 10), .ref (ad 11), .ref (ad 12), .int v_items_mustSet, .int v_items_count])), (ad 6, .inl (ki 0, n_iwid, .inl v_iwid)), (ad 27, .inr (7, [.ref (ad 2), .ref (ad 5), .ref (ad 13), .ref (ad 28)])), (ad 28, .inl (ki 0, n_rbeg, .inl v_rbeg))]) hE hK hP [0, 1, 2, 3] rfl 2 7 rfl rfl) rfl rfl hl.1 rfl (lv_room (Nat.le_of_ble_eq_true rfl)) d_Row_doTouch_18 ⟨Nat.le_of_ble_eq_true rfl, Nat.le_of_ble_eq_true rfl⟩) ?_
  refine lv_aload_n hx hb d_Row_doTouch_21 rfl (lv_at hl 0 rfl) ?_
  refine va_get (D := D) (ci := 7) (v := .ref (ad 28)) (C := R_Row) (T := F_Row) (N := 4) hx hb hts hn_Row hown hK hP 2 rfl rfl 3 (by decide) hL23 (fun _ h9 => h9) rfl d_Row_doTouch_22 ?_
  refine lv_iload_n hx hb d_Row_doTouch_25 rfl (lv_at hl 2 rfl) ?_
  obtain ⟨hi_6, hf⟩ := q_ck hf
  refine va_iald hx hb hK hP 3 0 rfl rfl hi_6 d_Row_doTouch_26 ?_
  refine lv_icmp_eq (tgt := 44) hx hb d_Row_doTouch_27 (by decide) (fun c_7 => ?_) (fun c_7 => ?_)
  · replace hf := q_it hf c_7
    refine lv_iconst (v := 1) hx hb d_Row_doTouch_44 (by decide) ?_
    refine lv_goto (tgt := 49) hx hb d_Row_doTouch_45 (by decide) ?_
    cases hf
    exact W.zret (v := bI true) hx hb hr (bI_nar _) (fun t ht hW => ⟨rfl, ht⟩) (fun q h => nomatch h) d_Row_doTouch_49
  replace hf := q_ie hf c_7
  refine lv_aload_n hx hb d_Row_doTouch_30 rfl (lv_at hl 0 rfl) ?_
  refine lv_iload_n hx hb d_Row_doTouch_31 rfl (lv_at hl 2 rfl) ?_
  obtain ⟨r_8, hc_8, hf⟩ := q_mb hf
  refine q_pcall (W.runV (As := [.int p2]) (rest := []) ⟨hx, hb, hml, hown, hts⟩ (c_Row_endOf l D ad ki n_iwid n_rbeg v_items_mustSet v_items_count v_iwid v_rbeg p2 N r_8 hc_8) (cwV 1 hts (q_goodV ⟨m_508, m_510, m_17, m_62⟩ m_511) rfl rfl rfl (by decide +kernel) ⟨Nat.le_of_ble_eq_true rfl, Nat.le_of_ble_eq_true rfl⟩) (q_preVP (wc := [(ad 5, .inr (2, [.ref (ad 6), .ref (ad 7), .ref (ad 8), .ref (ad 9), .ref (ad 10), .ref (ad 11), .ref (ad 12), .int v_items_mustSet, .int v_items_count])), (ad 6, .inl (ki 0, n_iwid, .inl v_iwid)), (ad 27, .inr (7, [.ref (ad 2), .ref (ad 5), .ref (ad 13), .ref (ad 28)])), (ad 28, .inl (ki 0, n_rbeg, .inl v_rbeg))]) hE hK hP [0, 1, 2, 3] rfl 2 7 rfl rfl) rfl rfl hl.1 rfl (lv_room (Nat.le_of_ble_eq_true rfl)) d_Row_doTouch_32 ⟨Nat.le_of_ble_eq_true rfl, Nat.le_of_ble_eq_true rfl⟩) ?_
  refine lv_aload_n hx hb d_Row_doTouch_35 rfl (lv_at hl 0 rfl) ?_
  refine va_get (D := D) (ci := 7) (v := .ref (ad 28)) (C := R_Row) (T := F_Row) (N := 4) hx hb hts hn_Row hown hK hP 2 rfl rfl 3 (by decide) hL23 (fun _ h9 => h9) rfl d_Row_doTouch_36 ?_
  refine lv_iload_n hx hb d_Row_doTouch_39 rfl (lv_at hl 1 rfl) ?_
  obtain ⟨hi_9, hf⟩ := q_ck hf
  refine va_iald hx hb hK hP 3 0 rfl rfl hi_9 d_Row_doTouch_40 ?_
  refine lv_icmp_ne (tgt := 48) hx hb d_Row_doTouch_41 (by decide) (fun c_10 => ?_) (fun c_10 => ?_)
  · replace hf := q_ie hf c_10
    refine lv_iconst (v := 0) hx hb d_Row_doTouch_48 (by decide) ?_
    cases hf
    exact W.zret (v := bI false) hx hb hr (bI_nar _) (fun t ht hW => ⟨rfl, ht⟩) (fun q h => nomatch h) d_Row_doTouch_49
  replace hf := q_it hf c_10
  refine lv_iconst (v := 1) hx hb d_Row_doTouch_44 (by decide) ?_
  refine lv_goto (tgt := 49) hx hb d_Row_doTouch_45 (by decide) ?_
  cases hf
  exact W.zret (v := bI true) hx hb hr (bI_nar _) (fun t ht hW => ⟨rfl, ht⟩) (fun q h => nomatch h) d_Row_doTouch_49
def f_Row_someBarredTouch_cut (N : Nat) (n_iwid : Nat) (n_ibar : Nat) (n_rbeg : Nat) (v_items_mustSet : Int32) (v_items_count : Int32) (v_iwid : Nat → Int32) (v_ibar : Nat → Int32) (v_rbeg : Nat → Int32) : Nat → Nat → Int32 → Int32 → Option (Bool)
  | 0, _, _, _ => none
  | n + 1, t, x1, x2 => if t = 0 then (if v_items_count ≤ x1 then (some false) else (f_Row_someBarredTouch_cut N n_iwid n_ibar n_rbeg v_items_mustSet v_items_count v_iwid v_ibar v_rbeg n 1 x1 (x1 + 1))) else (if v_items_count ≤ x2 then (f_Row_someBarredTouch_cut N n_iwid n_ibar n_rbeg v_items_mustSet v_items_count v_iwid v_ibar v_rbeg n 0 (x1 + 1) 0) else (Option.bind (f_Items_isBarred N n_ibar v_items_mustSet v_items_count v_ibar x1 x2) (fun r_3 => (if r_3 = true then (Option.bind (f_Row_doTouch N n_iwid n_rbeg v_items_mustSet v_items_count v_iwid v_rbeg x1 x2) (fun r_5 => (if r_5 = true then (some true) else (f_Row_someBarredTouch_cut N n_iwid n_ibar n_rbeg v_items_mustSet v_items_count v_iwid v_ibar v_rbeg n 1 x1 (x2 + 1))))) else (f_Row_someBarredTouch_cut N n_iwid n_ibar n_rbeg v_items_mustSet v_items_count v_iwid v_ibar v_rbeg n 1 x1 (x2 + 1))))))
theorem f_Row_someBarredTouch_cut_0 (N : Nat) (n_iwid : Nat) (n_ibar : Nat) (n_rbeg : Nat) (v_items_mustSet : Int32) (v_items_count : Int32) (v_iwid : Nat → Int32) (v_ibar : Nat → Int32) (v_rbeg : Nat → Int32) (n : Nat) (x1 : Int32) (x2 : Int32) : f_Row_someBarredTouch_cut N n_iwid n_ibar n_rbeg v_items_mustSet v_items_count v_iwid v_ibar v_rbeg (n + 1) 0 x1 x2 = (if v_items_count ≤ x1 then (some false) else (f_Row_someBarredTouch_cut N n_iwid n_ibar n_rbeg v_items_mustSet v_items_count v_iwid v_ibar v_rbeg n 1 x1 (x1 + 1))) := rfl
theorem f_Row_someBarredTouch_cut_1 (N : Nat) (n_iwid : Nat) (n_ibar : Nat) (n_rbeg : Nat) (v_items_mustSet : Int32) (v_items_count : Int32) (v_iwid : Nat → Int32) (v_ibar : Nat → Int32) (v_rbeg : Nat → Int32) (n : Nat) (x1 : Int32) (x2 : Int32) : f_Row_someBarredTouch_cut N n_iwid n_ibar n_rbeg v_items_mustSet v_items_count v_iwid v_ibar v_rbeg (n + 1) 1 x1 x2 = (if v_items_count ≤ x2 then (f_Row_someBarredTouch_cut N n_iwid n_ibar n_rbeg v_items_mustSet v_items_count v_iwid v_ibar v_rbeg n 0 (x1 + 1) 0) else (Option.bind (f_Items_isBarred N n_ibar v_items_mustSet v_items_count v_ibar x1 x2) (fun r_3 => (if r_3 = true then (Option.bind (f_Row_doTouch N n_iwid n_rbeg v_items_mustSet v_items_count v_iwid v_rbeg x1 x2) (fun r_5 => (if r_5 = true then (some true) else (f_Row_someBarredTouch_cut N n_iwid n_ibar n_rbeg v_items_mustSet v_items_count v_iwid v_ibar v_rbeg n 1 x1 (x2 + 1))))) else (f_Row_someBarredTouch_cut N n_iwid n_ibar n_rbeg v_items_mustSet v_items_count v_iwid v_ibar v_rbeg n 1 x1 (x2 + 1)))))) := rfl
def f_Row_someBarredTouch (N : Nat) (n_iwid : Nat) (n_ibar : Nat) (n_rbeg : Nat) (v_items_mustSet : Int32) (v_items_count : Int32) (v_iwid : Nat → Int32) (v_ibar : Nat → Int32) (v_rbeg : Nat → Int32)  : Option (Bool) := (f_Row_someBarredTouch_cut N n_iwid n_ibar n_rbeg v_items_mustSet v_items_count v_iwid v_ibar v_rbeg N 0 0 0)
set_option maxRecDepth 100000 in
set_option maxHeartbeats 4000000 in
theorem c_Row_someBarredTouch (l : Launch) (D : va_G) (ad : Nat → Nat) (ki : Nat → ClassId) (n_iwid : Nat) (n_ibar : Nat) (n_rbeg : Nat) (v_items_mustSet : Int32) (v_items_count : Int32) (v_iwid : Nat → Int32) (v_ibar : Nat → Int32) (v_rbeg : Nat → Int32)  (N : Nat) (r : Bool) (hf : f_Row_someBarredTouch N n_iwid n_ibar n_rbeg v_items_mustSet v_items_count v_iwid v_ibar v_rbeg = some r) : Met l y_Row_someBarredTouch w_Row_someBarredTouch { frames := 2, cells := 0, slots := 0, locals := 43 } (q_PcP [.ref (ad 27)] D vwCl [(ad 5, .inr (2, [.ref (ad 6), .ref (ad 7), .ref (ad 8), .ref (ad 9), .ref (ad 10), .ref (ad 11), .ref (ad 12), .int v_items_mustSet, .int v_items_count])), (ad 6, .inl (ki 0, n_iwid, .inl v_iwid)), (ad 8, .inl (ki 0, n_ibar, .inl v_ibar)), (ad 27, .inr (7, [.ref (ad 2), .ref (ad 5), .ref (ad 13), .ref (ad 28)])), (ad 28, .inl (ki 0, n_rbeg, .inl v_rbeg))] (TYS ki)) (k2_QcV (.int (bI r))) 0 0 (fun _ => False) := by
  refine Met.ofW (cc := b_Row_someBarredTouch) (maxL := 3) (ret := (some .boolean)) (by decide) rfl ?_
  intro p e s m args below meth c s₁ B hml hv
  obtain ⟨rfl, hP, hK, hE⟩ := hv
  have hx := B.exec
  have hb := B.bytes
  have hr := B.returns
  have hts := atoms_spec (ws := w_Row_someBarredTouch) B.pre
  have hown : s.vm.findClass R_Row = some m.cls := findClass_of_methodNamed B.named
  have hlocks := B.notSynchronized
  have hn_Items : ∀ w ∈ u_ws R_Items F_Items 9, w ∈ w_Row_someBarredTouch := (fun w h => List.mem_cons_of_mem _ (i_Items w h))
  have hn_Row : ∀ w ∈ u_ws R_Row F_Row 4, w ∈ w_Row_someBarredTouch := (fun w h => List.mem_cons_of_mem _ (i_Row w h))
  have hL15 := hts (.fieldLink R_Row 15 "RoomFills$Row" "items" "LRoomFills$Items;") (List.mem_cons_of_mem _ m_307)
  have hL66 := hts (.fieldLink R_Row 66 "RoomFills$Items" "count" "I") (List.mem_cons_of_mem _ m_142)
  replace hP : va_P D vwCl [(ad 5, .inr (2, [.ref (ad 6), .ref (ad 7), .ref (ad 8), .ref (ad 9), .ref (ad 10), .ref (ad 11), .ref (ad 12), .int v_items_mustSet, .int v_items_count])), (ad 6, .inl (ki 0, n_iwid, .inl v_iwid)), (ad 8, .inl (ki 0, n_ibar, .inl v_ibar)), (ad 27, .inr (7, [.ref (ad 2), .ref (ad 5), .ref (ad 13), .ref (ad 28)])), (ad 28, .inl (ki 0, n_rbeg, .inl v_rbeg))] s.heap := hP
  have hl := lv_entry ([.ref (ad 27)]) (n := 3) (Nat.le_of_ble_eq_true rfl)
  rw [lg_entry_eq]
  generalize (lg_sl ([.ref (ad 27)]) ++ List.replicate (3 - (lg_sl ([.ref (ad 27)])).length) Slot.unset).toArray = ls at hl ⊢
  replace hl : lv_has ls 3 [(0, .ref (ad 27))] := hl
  have key : ∀ n : Nat, (∀ (x1 : Int32), f_Row_someBarredTouch_cut N n_iwid n_ibar n_rbeg v_items_mustSet v_items_count v_iwid v_ibar v_rbeg n 0 x1 0 = some r → ∀ (ls : Array Slot), lv_has ls 3 [(0, .ref (ad 27)), (1, .int x1)] → W p l e (headSpec w_Row_someBarredTouch { frames := 2, cells := 0, slots := 0, locals := 43 }).room s m ([.ref (ad 27)] : List Value).toArray below meth c s.heap [] 0 0 (MQ below (k2_QcV (.int (bI r))) ([.ref (ad 27)] : List Value).toArray s 0 0 (fun _ => False)) (F0 m 2 ls [])) ∧ (∀ (x1 : Int32) (x2 : Int32), f_Row_someBarredTouch_cut N n_iwid n_ibar n_rbeg v_items_mustSet v_items_count v_iwid v_ibar v_rbeg n 1 x1 x2 = some r → ∀ (ls : Array Slot), lv_has ls 3 [(0, .ref (ad 27)), (1, .int x1), (2, .int x2)] → W p l e (headSpec w_Row_someBarredTouch { frames := 2, cells := 0, slots := 0, locals := 43 }).room s m ([.ref (ad 27)] : List Value).toArray below meth c s.heap [] 0 0 (MQ below (k2_QcV (.int (bI r))) ([.ref (ad 27)] : List Value).toArray s 0 0 (fun _ => False)) (F0 m 17 ls [])) := by
    intro n
    induction n with
    | zero =>
      exact ⟨fun x1 hf => (nomatch (show none = some _ from hf)), fun x1 x2 hf => (nomatch (show none = some _ from hf))⟩
    | succ n ih =>
      refine ⟨?_, ?_⟩
      · intro x1 hf ls hl
        rw [f_Row_someBarredTouch_cut_0] at hf
        refine lv_iload_n hx hb d_Row_someBarredTouch_2 rfl (lv_at hl 1 rfl) ?_
        refine lv_aload_n hx hb d_Row_someBarredTouch_3 rfl (lv_at hl 0 rfl) ?_
        refine va_get (D := D) (ci := 7) (v := .ref (ad 5)) (C := R_Row) (T := F_Row) (N := 4) hx hb hts hn_Row hown hK hP 3 rfl rfl 1 (by decide) hL15 (fun _ h9 => h9) rfl d_Row_someBarredTouch_4 ?_
        refine va_get (D := D) (ci := 2) (v := .int v_items_count) (C := R_Items) (T := F_Items) (N := 9) hx hb hts hn_Items hown hK hP 0 rfl rfl 8 (by decide) hL66 (fun _ h9 => h9) rfl d_Row_someBarredTouch_7 ?_
        refine lv_icmp_ge (tgt := 63) hx hb d_Row_someBarredTouch_10 (by decide) (fun c_1 => ?_) (fun c_1 => ?_)
        · replace hf := q_it hf c_1
          refine lv_iconst (v := 0) hx hb d_Row_someBarredTouch_63 (by decide) ?_
          cases hf
          exact W.zret (v := bI false) hx hb hr (bI_nar _) (fun t ht hW => ⟨rfl, ht⟩) (fun q h => nomatch h) d_Row_someBarredTouch_64
        replace hf := q_ie hf c_1
        refine lv_iload_n hx hb d_Row_someBarredTouch_13 rfl (lv_at hl 1 rfl) ?_
        refine lv_iconst (v := 1) hx hb d_Row_someBarredTouch_14 (by decide) ?_
        refine lv_iadd hx hb d_Row_someBarredTouch_15 ?_
        refine lv_istore_n (lv' := [(2, .int (x1 + 1)), (0, .ref (ad 27)), (1, .int x1)]) hx hb d_Row_someBarredTouch_16 rfl hl (by decide) rfl (fun ls hl => ?_)
        exact (ih).2 x1 (x1 + 1) hf ls (lv_sub hl [1, 2, 0] rfl)
      · intro x1 x2 hf ls hl
        rw [f_Row_someBarredTouch_cut_1] at hf
        refine lv_iload_n hx hb d_Row_someBarredTouch_17 rfl (lv_at hl 2 rfl) ?_
        refine lv_aload_n hx hb d_Row_someBarredTouch_18 rfl (lv_at hl 0 rfl) ?_
        refine va_get (D := D) (ci := 7) (v := .ref (ad 5)) (C := R_Row) (T := F_Row) (N := 4) hx hb hts hn_Row hown hK hP 3 rfl rfl 1 (by decide) hL15 (fun _ h9 => h9) rfl d_Row_someBarredTouch_19 ?_
        refine va_get (D := D) (ci := 2) (v := .int v_items_count) (C := R_Items) (T := F_Items) (N := 9) hx hb hts hn_Items hown hK hP 0 rfl rfl 8 (by decide) hL66 (fun _ h9 => h9) rfl d_Row_someBarredTouch_22 ?_
        refine lv_icmp_ge (tgt := 57) hx hb d_Row_someBarredTouch_25 (by decide) (fun c_2 => ?_) (fun c_2 => ?_)
        · replace hf := q_it hf c_2
          refine lv_iinc (v := (x1 + 1)) (lv' := [(1, .int (x1 + 1)), (0, .ref (ad 27)), (2, .int x2)]) hx hb d_Row_someBarredTouch_57 hl (k := 1) rfl rfl (by decide) rfl (fun ls hl => ?_)
          refine lv_goto (tgt := 2) hx hb d_Row_someBarredTouch_60 (by decide) ?_
          exact (ih).1 (x1 + 1) hf ls (lv_sub hl [1, 0] rfl)
        replace hf := q_ie hf c_2
        refine lv_aload_n hx hb d_Row_someBarredTouch_28 rfl (lv_at hl 0 rfl) ?_
        refine va_get (D := D) (ci := 7) (v := .ref (ad 5)) (C := R_Row) (T := F_Row) (N := 4) hx hb hts hn_Row hown hK hP 3 rfl rfl 1 (by decide) hL15 (fun _ h9 => h9) rfl d_Row_someBarredTouch_29 ?_
        refine lv_iload_n hx hb d_Row_someBarredTouch_32 rfl (lv_at hl 1 rfl) ?_
        refine lv_iload_n hx hb d_Row_someBarredTouch_33 rfl (lv_at hl 2 rfl) ?_
        obtain ⟨r_3, hc_3, hf⟩ := q_mb hf
        refine q_pcall (W.runV (As := [.int x1, .int x2]) (rest := []) ⟨hx, hb, hml, hown, hts⟩ (c_Items_isBarred l D ad ki n_ibar v_items_mustSet v_items_count v_ibar x1 x2 N r_3 hc_3) (cwV 2 hts (q_goodV ⟨m_537, m_457, m_458, m_57⟩ m_459) rfl rfl rfl (by decide +kernel) ⟨Nat.le_of_ble_eq_true rfl, Nat.le_of_ble_eq_true rfl⟩) (q_preVP (wc := [(ad 5, .inr (2, [.ref (ad 6), .ref (ad 7), .ref (ad 8), .ref (ad 9), .ref (ad 10), .ref (ad 11), .ref (ad 12), .int v_items_mustSet, .int v_items_count])), (ad 8, .inl (ki 0, n_ibar, .inl v_ibar))]) hE hK hP [0, 2] rfl 0 2 rfl rfl) rfl rfl hl.1 rfl (lv_room (Nat.le_of_ble_eq_true rfl)) d_Row_someBarredTouch_34 ⟨Nat.le_of_ble_eq_true rfl, Nat.le_of_ble_eq_true rfl⟩) ?_
        refine zv_eq (tgt := 51) hx hb d_Row_someBarredTouch_37 (by decide) (fun c_4 => ?_) (fun c_4 => ?_)
        · replace hf := q_ie hf c_4
          refine lv_iinc (v := (x2 + 1)) (lv' := [(2, .int (x2 + 1)), (0, .ref (ad 27)), (1, .int x1)]) hx hb d_Row_someBarredTouch_51 hl (k := 2) rfl rfl (by decide) rfl (fun ls hl => ?_)
          refine lv_goto (tgt := 17) hx hb d_Row_someBarredTouch_54 (by decide) ?_
          exact (ih).2 x1 (x2 + 1) hf ls (lv_sub hl [1, 2, 0] rfl)
        replace hf := q_it hf c_4
        refine lv_aload_n hx hb d_Row_someBarredTouch_40 rfl (lv_at hl 0 rfl) ?_
        refine lv_iload_n hx hb d_Row_someBarredTouch_41 rfl (lv_at hl 1 rfl) ?_
        refine lv_iload_n hx hb d_Row_someBarredTouch_42 rfl (lv_at hl 2 rfl) ?_
        obtain ⟨r_5, hc_5, hf⟩ := q_mb hf
        refine q_pcall (W.runV (As := [.int x1, .int x2]) (rest := []) ⟨hx, hb, hml, hown, hts⟩ (c_Row_doTouch l D ad ki n_iwid n_rbeg v_items_mustSet v_items_count v_iwid v_rbeg x1 x2 N r_5 hc_5) (cwV 2 hts (q_goodV ⟨m_538, m_540, m_24, m_62⟩ m_541) rfl rfl rfl (by decide +kernel) ⟨Nat.le_of_ble_eq_true rfl, Nat.le_of_ble_eq_true rfl⟩) (q_preVP (wc := [(ad 5, .inr (2, [.ref (ad 6), .ref (ad 7), .ref (ad 8), .ref (ad 9), .ref (ad 10), .ref (ad 11), .ref (ad 12), .int v_items_mustSet, .int v_items_count])), (ad 6, .inl (ki 0, n_iwid, .inl v_iwid)), (ad 27, .inr (7, [.ref (ad 2), .ref (ad 5), .ref (ad 13), .ref (ad 28)])), (ad 28, .inl (ki 0, n_rbeg, .inl v_rbeg))]) hE hK hP [0, 1, 3, 4] rfl 3 7 rfl rfl) rfl rfl hl.1 rfl (lv_room (Nat.le_of_ble_eq_true rfl)) d_Row_someBarredTouch_43 ⟨Nat.le_of_ble_eq_true rfl, Nat.le_of_ble_eq_true rfl⟩) ?_
        refine zv_eq (tgt := 51) hx hb d_Row_someBarredTouch_46 (by decide) (fun c_6 => ?_) (fun c_6 => ?_)
        · replace hf := q_ie hf c_6
          refine lv_iinc (v := (x2 + 1)) (lv' := [(2, .int (x2 + 1)), (0, .ref (ad 27)), (1, .int x1)]) hx hb d_Row_someBarredTouch_51 hl (k := 2) rfl rfl (by decide) rfl (fun ls hl => ?_)
          refine lv_goto (tgt := 17) hx hb d_Row_someBarredTouch_54 (by decide) ?_
          exact (ih).2 x1 (x2 + 1) hf ls (lv_sub hl [1, 2, 0] rfl)
        replace hf := q_it hf c_6
        refine lv_iconst (v := 1) hx hb d_Row_someBarredTouch_49 (by decide) ?_
        cases hf
        exact W.zret (v := bI true) hx hb hr (bI_nar _) (fun t ht hW => ⟨rfl, ht⟩) (fun q h => nomatch h) d_Row_someBarredTouch_50
  unfold f_Row_someBarredTouch at hf
  refine lv_iconst (v := 0) hx hb d_Row_someBarredTouch_0 (by decide) ?_
  refine lv_istore_n (lv' := [(1, .int 0), (0, .ref (ad 27))]) hx hb d_Row_someBarredTouch_1 rfl hl (by decide) rfl (fun ls hl => ?_)
  exact (key N).1 0 hf ls (lv_sub hl [1, 0] rfl)
def f_Row_covers (N : Nat) (n_iwid : Nat) (n_rbeg : Nat) (v_items_mustSet : Int32) (v_items_count : Int32) (v_iwid : Nat → Int32) (v_rbeg : Nat → Int32) (p1 : Int32) (p2 : Int32) : Option (Bool) := (Option.bind (f_Row_isPut N n_rbeg v_rbeg p1) (fun r_1 => (if r_1 = true then (if p1 < 0 ∨ n_rbeg ≤ Int32.toNatClampNeg p1 then none else (if p2 < (v_rbeg (Int32.toNatClampNeg p1)) then (some false) else (Option.bind (f_Row_endOf N n_iwid n_rbeg v_items_mustSet v_items_count v_iwid v_rbeg p1) (fun r_5 => (if r_5 ≤ p2 then (some false) else (some true)))))) else (some false))))
set_option maxRecDepth 100000 in
set_option maxHeartbeats 4000000 in
theorem c_Row_covers (l : Launch) (D : va_G) (ad : Nat → Nat) (ki : Nat → ClassId) (n_iwid : Nat) (n_rbeg : Nat) (v_items_mustSet : Int32) (v_items_count : Int32) (v_iwid : Nat → Int32) (v_rbeg : Nat → Int32) (p1 : Int32) (p2 : Int32) (N : Nat) (r : Bool) (hf : f_Row_covers N n_iwid n_rbeg v_items_mustSet v_items_count v_iwid v_rbeg p1 p2 = some r) : Met l y_Row_covers w_Row_covers { frames := 1, cells := 0, slots := 0, locals := 21 } (q_PcP [.ref (ad 27), .int p1, .int p2] D vwCl [(ad 5, .inr (2, [.ref (ad 6), .ref (ad 7), .ref (ad 8), .ref (ad 9), .ref (ad 10), .ref (ad 11), .ref (ad 12), .int v_items_mustSet, .int v_items_count])), (ad 6, .inl (ki 0, n_iwid, .inl v_iwid)), (ad 27, .inr (7, [.ref (ad 2), .ref (ad 5), .ref (ad 13), .ref (ad 28)])), (ad 28, .inl (ki 0, n_rbeg, .inl v_rbeg))] (TYS ki)) (k2_QcV (.int (bI r))) 0 0 (fun _ => False) := by
  refine Met.ofW (cc := b_Row_covers) (maxL := 3) (ret := (some .boolean)) (by decide) rfl ?_
  intro p e s m args below meth c s₁ B hml hv
  obtain ⟨rfl, hP, hK, hE⟩ := hv
  have hx := B.exec
  have hb := B.bytes
  have hr := B.returns
  have hts := atoms_spec (ws := w_Row_covers) B.pre
  have hown : s.vm.findClass R_Row = some m.cls := findClass_of_methodNamed B.named
  have hlocks := B.notSynchronized
  have hn_Row : ∀ w ∈ u_ws R_Row F_Row 4, w ∈ w_Row_covers := (fun w h => List.mem_cons_of_mem _ (i_Row w h))
  have hL23 := hts (.fieldLink R_Row 23 "RoomFills$Row" "begin" "[I") (List.mem_cons_of_mem _ m_309)
  replace hP : va_P D vwCl [(ad 5, .inr (2, [.ref (ad 6), .ref (ad 7), .ref (ad 8), .ref (ad 9), .ref (ad 10), .ref (ad 11), .ref (ad 12), .int v_items_mustSet, .int v_items_count])), (ad 6, .inl (ki 0, n_iwid, .inl v_iwid)), (ad 27, .inr (7, [.ref (ad 2), .ref (ad 5), .ref (ad 13), .ref (ad 28)])), (ad 28, .inl (ki 0, n_rbeg, .inl v_rbeg))] s.heap := hP
  have hl := lv_entry ([.ref (ad 27), .int p1, .int p2]) (n := 3) (Nat.le_of_ble_eq_true rfl)
  rw [lg_entry_eq]
  generalize (lg_sl ([.ref (ad 27), .int p1, .int p2]) ++ List.replicate (3 - (lg_sl ([.ref (ad 27), .int p1, .int p2])).length) Slot.unset).toArray = ls at hl ⊢
  replace hl : lv_has ls 3 [(0, .ref (ad 27)), (1, .int p1), (2, .int p2)] := hl
  unfold f_Row_covers at hf
  refine lv_aload_n hx hb d_Row_covers_0 rfl (lv_at hl 0 rfl) ?_
  refine lv_iload_n hx hb d_Row_covers_1 rfl (lv_at hl 1 rfl) ?_
  obtain ⟨r_1, hc_1, hf⟩ := q_mb hf
  refine q_pcall (W.runV (As := [.int p1]) (rest := []) ⟨hx, hb, hml, hown, hts⟩ (c_Row_isPut l D ad ki n_rbeg v_rbeg p1 N r_1 hc_1) (cwV 1 hts (q_goodV ⟨m_492, m_494, m_14, m_62⟩ m_495) rfl rfl rfl (by decide +kernel) ⟨Nat.le_of_ble_eq_true rfl, Nat.le_of_ble_eq_true rfl⟩) (q_preVP (wc := [(ad 27, .inr (7, [.ref (ad 2), .ref (ad 5), .ref (ad 13), .ref (ad 28)])), (ad 28, .inl (ki 0, n_rbeg, .inl v_rbeg))]) hE hK hP [2, 3] rfl 2 7 rfl rfl) rfl rfl hl.1 rfl (lv_room (Nat.le_of_ble_eq_true rfl)) d_Row_covers_2 ⟨Nat.le_of_ble_eq_true rfl, Nat.le_of_ble_eq_true rfl⟩) ?_
  refine zv_eq (tgt := 31) hx hb d_Row_covers_5 (by decide) (fun c_2 => ?_) (fun c_2 => ?_)
  · replace hf := q_ie hf c_2
    refine lv_iconst (v := 0) hx hb d_Row_covers_31 (by decide) ?_
    cases hf
    exact W.zret (v := bI false) hx hb hr (bI_nar _) (fun t ht hW => ⟨rfl, ht⟩) (fun q h => nomatch h) d_Row_covers_32
  replace hf := q_it hf c_2
  refine lv_iload_n hx hb d_Row_covers_8 rfl (lv_at hl 2 rfl) ?_
  refine lv_aload_n hx hb d_Row_covers_9 rfl (lv_at hl 0 rfl) ?_
  refine va_get (D := D) (ci := 7) (v := .ref (ad 28)) (C := R_Row) (T := F_Row) (N := 4) hx hb hts hn_Row hown hK hP 2 rfl rfl 3 (by decide) hL23 (fun _ h9 => h9) rfl d_Row_covers_10 ?_
  refine lv_iload_n hx hb d_Row_covers_13 rfl (lv_at hl 1 rfl) ?_
  obtain ⟨hi_3, hf⟩ := q_ck hf
  refine va_iald hx hb hK hP 3 0 rfl rfl hi_3 d_Row_covers_14 ?_
  refine lv_icmp_lt (tgt := 31) hx hb d_Row_covers_15 (by decide) (fun c_4 => ?_) (fun c_4 => ?_)
  · replace hf := q_it hf c_4
    refine lv_iconst (v := 0) hx hb d_Row_covers_31 (by decide) ?_
    cases hf
    exact W.zret (v := bI false) hx hb hr (bI_nar _) (fun t ht hW => ⟨rfl, ht⟩) (fun q h => nomatch h) d_Row_covers_32
  replace hf := q_ie hf c_4
  refine lv_iload_n hx hb d_Row_covers_18 rfl (lv_at hl 2 rfl) ?_
  refine lv_aload_n hx hb d_Row_covers_19 rfl (lv_at hl 0 rfl) ?_
  refine lv_iload_n hx hb d_Row_covers_20 rfl (lv_at hl 1 rfl) ?_
  obtain ⟨r_5, hc_5, hf⟩ := q_mb hf
  refine q_pcall (W.runV (As := [.int p1]) (rest := [.int p2]) ⟨hx, hb, hml, hown, hts⟩ (c_Row_endOf l D ad ki n_iwid n_rbeg v_items_mustSet v_items_count v_iwid v_rbeg p1 N r_5 hc_5) (cwV 1 hts (q_goodV ⟨m_508, m_510, m_17, m_62⟩ m_511) rfl rfl rfl (by decide +kernel) ⟨Nat.le_of_ble_eq_true rfl, Nat.le_of_ble_eq_true rfl⟩) (q_preVP (wc := [(ad 5, .inr (2, [.ref (ad 6), .ref (ad 7), .ref (ad 8), .ref (ad 9), .ref (ad 10), .ref (ad 11), .ref (ad 12), .int v_items_mustSet, .int v_items_count])), (ad 6, .inl (ki 0, n_iwid, .inl v_iwid)), (ad 27, .inr (7, [.ref (ad 2), .ref (ad 5), .ref (ad 13), .ref (ad 28)])), (ad 28, .inl (ki 0, n_rbeg, .inl v_rbeg))]) hE hK hP [0, 1, 2, 3] rfl 2 7 rfl rfl) rfl rfl hl.1 rfl (lv_room (Nat.le_of_ble_eq_true rfl)) d_Row_covers_21 ⟨Nat.le_of_ble_eq_true rfl, Nat.le_of_ble_eq_true rfl⟩) ?_
  refine lv_icmp_ge (tgt := 31) hx hb d_Row_covers_24 (by decide) (fun c_6 => ?_) (fun c_6 => ?_)
  · replace hf := q_it hf c_6
    refine lv_iconst (v := 0) hx hb d_Row_covers_31 (by decide) ?_
    cases hf
    exact W.zret (v := bI false) hx hb hr (bI_nar _) (fun t ht hW => ⟨rfl, ht⟩) (fun q h => nomatch h) d_Row_covers_32
  replace hf := q_ie hf c_6
  refine lv_iconst (v := 1) hx hb d_Row_covers_27 (by decide) ?_
  refine lv_goto (tgt := 32) hx hb d_Row_covers_28 (by decide) ?_
  cases hf
  exact W.zret (v := bI true) hx hb hr (bI_nar _) (fun t ht hW => ⟨rfl, ht⟩) (fun q h => nomatch h) d_Row_covers_32
def f_Row_isCovered_cut (N : Nat) (n_iwid : Nat) (n_rbeg : Nat) (v_items_mustSet : Int32) (v_items_count : Int32) (v_iwid : Nat → Int32) (v_rbeg : Nat → Int32) : Nat → Nat → Int32 → Int32 → Option (Bool)
  | 0, _, _, _ => none
  | n + 1, t, x1, x2 => (if v_items_count ≤ x2 then (some false) else (Option.bind (f_Row_covers N n_iwid n_rbeg v_items_mustSet v_items_count v_iwid v_rbeg x2 x1) (fun r_2 => (if r_2 = true then (some true) else (f_Row_isCovered_cut N n_iwid n_rbeg v_items_mustSet v_items_count v_iwid v_rbeg n 0 x1 (x2 + 1))))))
theorem f_Row_isCovered_cut_0 (N : Nat) (n_iwid : Nat) (n_rbeg : Nat) (v_items_mustSet : Int32) (v_items_count : Int32) (v_iwid : Nat → Int32) (v_rbeg : Nat → Int32) (n : Nat) (x1 : Int32) (x2 : Int32) : f_Row_isCovered_cut N n_iwid n_rbeg v_items_mustSet v_items_count v_iwid v_rbeg (n + 1) 0 x1 x2 = (if v_items_count ≤ x2 then (some false) else (Option.bind (f_Row_covers N n_iwid n_rbeg v_items_mustSet v_items_count v_iwid v_rbeg x2 x1) (fun r_2 => (if r_2 = true then (some true) else (f_Row_isCovered_cut N n_iwid n_rbeg v_items_mustSet v_items_count v_iwid v_rbeg n 0 x1 (x2 + 1)))))) := rfl
def f_Row_isCovered (N : Nat) (n_iwid : Nat) (n_rbeg : Nat) (v_items_mustSet : Int32) (v_items_count : Int32) (v_iwid : Nat → Int32) (v_rbeg : Nat → Int32) (p1 : Int32) : Option (Bool) := (f_Row_isCovered_cut N n_iwid n_rbeg v_items_mustSet v_items_count v_iwid v_rbeg N 0 p1 0)
set_option maxRecDepth 100000 in
set_option maxHeartbeats 4000000 in
theorem c_Row_isCovered (l : Launch) (D : va_G) (ad : Nat → Nat) (ki : Nat → ClassId) (n_iwid : Nat) (n_rbeg : Nat) (v_items_mustSet : Int32) (v_items_count : Int32) (v_iwid : Nat → Int32) (v_rbeg : Nat → Int32) (p1 : Int32) (N : Nat) (r : Bool) (hf : f_Row_isCovered N n_iwid n_rbeg v_items_mustSet v_items_count v_iwid v_rbeg p1 = some r) : Met l y_Row_isCovered w_Row_isCovered { frames := 2, cells := 0, slots := 0, locals := 43 } (q_PcP [.ref (ad 27), .int p1] D vwCl [(ad 5, .inr (2, [.ref (ad 6), .ref (ad 7), .ref (ad 8), .ref (ad 9), .ref (ad 10), .ref (ad 11), .ref (ad 12), .int v_items_mustSet, .int v_items_count])), (ad 6, .inl (ki 0, n_iwid, .inl v_iwid)), (ad 27, .inr (7, [.ref (ad 2), .ref (ad 5), .ref (ad 13), .ref (ad 28)])), (ad 28, .inl (ki 0, n_rbeg, .inl v_rbeg))] (TYS ki)) (k2_QcV (.int (bI r))) 0 0 (fun _ => False) := by
  refine Met.ofW (cc := b_Row_isCovered) (maxL := 3) (ret := (some .boolean)) (by decide) rfl ?_
  intro p e s m args below meth c s₁ B hml hv
  obtain ⟨rfl, hP, hK, hE⟩ := hv
  have hx := B.exec
  have hb := B.bytes
  have hr := B.returns
  have hts := atoms_spec (ws := w_Row_isCovered) B.pre
  have hown : s.vm.findClass R_Row = some m.cls := findClass_of_methodNamed B.named
  have hlocks := B.notSynchronized
  have hn_Items : ∀ w ∈ u_ws R_Items F_Items 9, w ∈ w_Row_isCovered := (fun w h => List.mem_cons_of_mem _ (i_Items w h))
  have hn_Row : ∀ w ∈ u_ws R_Row F_Row 4, w ∈ w_Row_isCovered := (fun w h => List.mem_cons_of_mem _ (i_Row w h))
  have hL15 := hts (.fieldLink R_Row 15 "RoomFills$Row" "items" "LRoomFills$Items;") (List.mem_cons_of_mem _ m_307)
  have hL66 := hts (.fieldLink R_Row 66 "RoomFills$Items" "count" "I") (List.mem_cons_of_mem _ m_142)
  replace hP : va_P D vwCl [(ad 5, .inr (2, [.ref (ad 6), .ref (ad 7), .ref (ad 8), .ref (ad 9), .ref (ad 10), .ref (ad 11), .ref (ad 12), .int v_items_mustSet, .int v_items_count])), (ad 6, .inl (ki 0, n_iwid, .inl v_iwid)), (ad 27, .inr (7, [.ref (ad 2), .ref (ad 5), .ref (ad 13), .ref (ad 28)])), (ad 28, .inl (ki 0, n_rbeg, .inl v_rbeg))] s.heap := hP
  have hl := lv_entry ([.ref (ad 27), .int p1]) (n := 3) (Nat.le_of_ble_eq_true rfl)
  rw [lg_entry_eq]
  generalize (lg_sl ([.ref (ad 27), .int p1]) ++ List.replicate (3 - (lg_sl ([.ref (ad 27), .int p1])).length) Slot.unset).toArray = ls at hl ⊢
  replace hl : lv_has ls 3 [(0, .ref (ad 27)), (1, .int p1)] := hl
  have key : ∀ n : Nat, (∀ (x1 : Int32) (x2 : Int32), f_Row_isCovered_cut N n_iwid n_rbeg v_items_mustSet v_items_count v_iwid v_rbeg n 0 x1 x2 = some r → ∀ (ls : Array Slot), lv_has ls 3 [(0, .ref (ad 27)), (1, .int x1), (2, .int x2)] → W p l e (headSpec w_Row_isCovered { frames := 2, cells := 0, slots := 0, locals := 43 }).room s m ([.ref (ad 27), .int p1] : List Value).toArray below meth c s.heap [] 0 0 (MQ below (k2_QcV (.int (bI r))) ([.ref (ad 27), .int p1] : List Value).toArray s 0 0 (fun _ => False)) (F0 m 2 ls [])) := by
    intro n
    induction n with
    | zero =>
      exact fun x1 x2 hf => (nomatch (show none = some _ from hf))
    | succ n ih =>
      intro x1 x2 hf ls hl
      rw [f_Row_isCovered_cut_0] at hf
      refine lv_iload_n hx hb d_Row_isCovered_2 rfl (lv_at hl 2 rfl) ?_
      refine lv_aload_n hx hb d_Row_isCovered_3 rfl (lv_at hl 0 rfl) ?_
      refine va_get (D := D) (ci := 7) (v := .ref (ad 5)) (C := R_Row) (T := F_Row) (N := 4) hx hb hts hn_Row hown hK hP 2 rfl rfl 1 (by decide) hL15 (fun _ h9 => h9) rfl d_Row_isCovered_4 ?_
      refine va_get (D := D) (ci := 2) (v := .int v_items_count) (C := R_Items) (T := F_Items) (N := 9) hx hb hts hn_Items hown hK hP 0 rfl rfl 8 (by decide) hL66 (fun _ h9 => h9) rfl d_Row_isCovered_7 ?_
      refine lv_icmp_ge (tgt := 30) hx hb d_Row_isCovered_10 (by decide) (fun c_1 => ?_) (fun c_1 => ?_)
      · replace hf := q_it hf c_1
        refine lv_iconst (v := 0) hx hb d_Row_isCovered_30 (by decide) ?_
        cases hf
        exact W.zret (v := bI false) hx hb hr (bI_nar _) (fun t ht hW => ⟨rfl, ht⟩) (fun q h => nomatch h) d_Row_isCovered_31
      replace hf := q_ie hf c_1
      refine lv_aload_n hx hb d_Row_isCovered_13 rfl (lv_at hl 0 rfl) ?_
      refine lv_iload_n hx hb d_Row_isCovered_14 rfl (lv_at hl 2 rfl) ?_
      refine lv_iload_n hx hb d_Row_isCovered_15 rfl (lv_at hl 1 rfl) ?_
      obtain ⟨r_2, hc_2, hf⟩ := q_mb hf
      refine q_pcall (W.runV (As := [.int x2, .int x1]) (rest := []) ⟨hx, hb, hml, hown, hts⟩ (c_Row_covers l D ad ki n_iwid n_rbeg v_items_mustSet v_items_count v_iwid v_rbeg x2 x1 N r_2 hc_2) (cwV 2 hts (q_goodV ⟨m_520, m_522, m_20, m_62⟩ m_523) rfl rfl rfl (by decide +kernel) ⟨Nat.le_of_ble_eq_true rfl, Nat.le_of_ble_eq_true rfl⟩) (q_preVP (wc := [(ad 5, .inr (2, [.ref (ad 6), .ref (ad 7), .ref (ad 8), .ref (ad 9), .ref (ad 10), .ref (ad 11), .ref (ad 12), .int v_items_mustSet, .int v_items_count])), (ad 6, .inl (ki 0, n_iwid, .inl v_iwid)), (ad 27, .inr (7, [.ref (ad 2), .ref (ad 5), .ref (ad 13), .ref (ad 28)])), (ad 28, .inl (ki 0, n_rbeg, .inl v_rbeg))]) hE hK hP [0, 1, 2, 3] rfl 2 7 rfl rfl) rfl rfl hl.1 rfl (lv_room (Nat.le_of_ble_eq_true rfl)) d_Row_isCovered_16 ⟨Nat.le_of_ble_eq_true rfl, Nat.le_of_ble_eq_true rfl⟩) ?_
      refine zv_eq (tgt := 24) hx hb d_Row_isCovered_19 (by decide) (fun c_3 => ?_) (fun c_3 => ?_)
      · replace hf := q_ie hf c_3
        refine lv_iinc (v := (x2 + 1)) (lv' := [(2, .int (x2 + 1)), (0, .ref (ad 27)), (1, .int x1)]) hx hb d_Row_isCovered_24 hl (k := 2) rfl rfl (by decide) rfl (fun ls hl => ?_)
        refine lv_goto (tgt := 2) hx hb d_Row_isCovered_27 (by decide) ?_
        exact (ih) x1 (x2 + 1) hf ls (lv_sub hl [1, 2, 0] rfl)
      replace hf := q_it hf c_3
      refine lv_iconst (v := 1) hx hb d_Row_isCovered_22 (by decide) ?_
      cases hf
      exact W.zret (v := bI true) hx hb hr (bI_nar _) (fun t ht hW => ⟨rfl, ht⟩) (fun q h => nomatch h) d_Row_isCovered_23
  unfold f_Row_isCovered at hf
  refine lv_iconst (v := 0) hx hb d_Row_isCovered_0 (by decide) ?_
  refine lv_istore_n (lv' := [(2, .int 0), (0, .ref (ad 27)), (1, .int p1)]) hx hb d_Row_isCovered_1 rfl hl (by decide) rfl (fun ls hl => ?_)
  exact (key N) p1 0 hf ls (lv_sub hl [1, 2, 0] rfl)
def f_Row_someGapIsNoFiller_cut (N : Nat) (n_wfree : Nat) (n_iwid : Nat) (n_rbeg : Nat) (v_wall_steps : Int32) (v_wall_pipeCount : Int32) (v_wfree : Nat → Int32) (v_items_mustSet : Int32) (v_items_count : Int32) (v_iwid : Nat → Int32) (v_fill_least : Int32) (v_fill_most : Int32) (v_rbeg : Nat → Int32) : Nat → Nat → Int32 → Int32 → Option (Bool)
  | 0, _, _, _ => none
  | n + 1, t, x1, x2 => (if v_wall_steps ≤ x2 then (if x1 ≤ 0 then (some false) else (Option.bind (f_Fillers_isWidth N v_fill_least v_fill_most x1) (fun r_3 => (if r_3 = true then (some false) else (some true))))) else (if x2 < 0 ∨ n_wfree ≤ Int32.toNatClampNeg x2 then none else (if (v_wfree (Int32.toNatClampNeg x2)) = 0 then (Option.bind (f_Row_isCovered N n_iwid n_rbeg v_items_mustSet v_items_count v_iwid v_rbeg x2) (fun r_10 => (if r_10 = true then (if x1 ≤ 0 then (f_Row_someGapIsNoFiller_cut N n_wfree n_iwid n_rbeg v_wall_steps v_wall_pipeCount v_wfree v_items_mustSet v_items_count v_iwid v_fill_least v_fill_most v_rbeg n 0 0 (x2 + 1)) else (Option.bind (f_Fillers_isWidth N v_fill_least v_fill_most x1) (fun r_13 => (if r_13 = true then (f_Row_someGapIsNoFiller_cut N n_wfree n_iwid n_rbeg v_wall_steps v_wall_pipeCount v_wfree v_items_mustSet v_items_count v_iwid v_fill_least v_fill_most v_rbeg n 0 0 (x2 + 1)) else (some true))))) else (f_Row_someGapIsNoFiller_cut N n_wfree n_iwid n_rbeg v_wall_steps v_wall_pipeCount v_wfree v_items_mustSet v_items_count v_iwid v_fill_least v_fill_most v_rbeg n 0 (x1 + 1) (x2 + 1))))) else (if x1 ≤ 0 then (f_Row_someGapIsNoFiller_cut N n_wfree n_iwid n_rbeg v_wall_steps v_wall_pipeCount v_wfree v_items_mustSet v_items_count v_iwid v_fill_least v_fill_most v_rbeg n 0 0 (x2 + 1)) else (Option.bind (f_Fillers_isWidth N v_fill_least v_fill_most x1) (fun r_8 => (if r_8 = true then (f_Row_someGapIsNoFiller_cut N n_wfree n_iwid n_rbeg v_wall_steps v_wall_pipeCount v_wfree v_items_mustSet v_items_count v_iwid v_fill_least v_fill_most v_rbeg n 0 0 (x2 + 1)) else (some true))))))))
theorem f_Row_someGapIsNoFiller_cut_0 (N : Nat) (n_wfree : Nat) (n_iwid : Nat) (n_rbeg : Nat) (v_wall_steps : Int32) (v_wall_pipeCount : Int32) (v_wfree : Nat → Int32) (v_items_mustSet : Int32) (v_items_count : Int32) (v_iwid : Nat → Int32) (v_fill_least : Int32) (v_fill_most : Int32) (v_rbeg : Nat → Int32) (n : Nat) (x1 : Int32) (x2 : Int32) : f_Row_someGapIsNoFiller_cut N n_wfree n_iwid n_rbeg v_wall_steps v_wall_pipeCount v_wfree v_items_mustSet v_items_count v_iwid v_fill_least v_fill_most v_rbeg (n + 1) 0 x1 x2 = (if v_wall_steps ≤ x2 then (if x1 ≤ 0 then (some false) else (Option.bind (f_Fillers_isWidth N v_fill_least v_fill_most x1) (fun r_3 => (if r_3 = true then (some false) else (some true))))) else (if x2 < 0 ∨ n_wfree ≤ Int32.toNatClampNeg x2 then none else (if (v_wfree (Int32.toNatClampNeg x2)) = 0 then (Option.bind (f_Row_isCovered N n_iwid n_rbeg v_items_mustSet v_items_count v_iwid v_rbeg x2) (fun r_10 => (if r_10 = true then (if x1 ≤ 0 then (f_Row_someGapIsNoFiller_cut N n_wfree n_iwid n_rbeg v_wall_steps v_wall_pipeCount v_wfree v_items_mustSet v_items_count v_iwid v_fill_least v_fill_most v_rbeg n 0 0 (x2 + 1)) else (Option.bind (f_Fillers_isWidth N v_fill_least v_fill_most x1) (fun r_13 => (if r_13 = true then (f_Row_someGapIsNoFiller_cut N n_wfree n_iwid n_rbeg v_wall_steps v_wall_pipeCount v_wfree v_items_mustSet v_items_count v_iwid v_fill_least v_fill_most v_rbeg n 0 0 (x2 + 1)) else (some true))))) else (f_Row_someGapIsNoFiller_cut N n_wfree n_iwid n_rbeg v_wall_steps v_wall_pipeCount v_wfree v_items_mustSet v_items_count v_iwid v_fill_least v_fill_most v_rbeg n 0 (x1 + 1) (x2 + 1))))) else (if x1 ≤ 0 then (f_Row_someGapIsNoFiller_cut N n_wfree n_iwid n_rbeg v_wall_steps v_wall_pipeCount v_wfree v_items_mustSet v_items_count v_iwid v_fill_least v_fill_most v_rbeg n 0 0 (x2 + 1)) else (Option.bind (f_Fillers_isWidth N v_fill_least v_fill_most x1) (fun r_8 => (if r_8 = true then (f_Row_someGapIsNoFiller_cut N n_wfree n_iwid n_rbeg v_wall_steps v_wall_pipeCount v_wfree v_items_mustSet v_items_count v_iwid v_fill_least v_fill_most v_rbeg n 0 0 (x2 + 1)) else (some true)))))))) := rfl
def f_Row_someGapIsNoFiller (N : Nat) (n_wfree : Nat) (n_iwid : Nat) (n_rbeg : Nat) (v_wall_steps : Int32) (v_wall_pipeCount : Int32) (v_wfree : Nat → Int32) (v_items_mustSet : Int32) (v_items_count : Int32) (v_iwid : Nat → Int32) (v_fill_least : Int32) (v_fill_most : Int32) (v_rbeg : Nat → Int32)  : Option (Bool) := (f_Row_someGapIsNoFiller_cut N n_wfree n_iwid n_rbeg v_wall_steps v_wall_pipeCount v_wfree v_items_mustSet v_items_count v_iwid v_fill_least v_fill_most v_rbeg N 0 0 0)
set_option maxRecDepth 100000 in
set_option maxHeartbeats 4000000 in
theorem c_Row_someGapIsNoFiller (l : Launch) (D : va_G) (ad : Nat → Nat) (ki : Nat → ClassId) (n_wfree : Nat) (n_iwid : Nat) (n_rbeg : Nat) (v_wall_steps : Int32) (v_wall_pipeCount : Int32) (v_wfree : Nat → Int32) (v_items_mustSet : Int32) (v_items_count : Int32) (v_iwid : Nat → Int32) (v_fill_least : Int32) (v_fill_most : Int32) (v_rbeg : Nat → Int32)  (N : Nat) (r : Bool) (hf : f_Row_someGapIsNoFiller N n_wfree n_iwid n_rbeg v_wall_steps v_wall_pipeCount v_wfree v_items_mustSet v_items_count v_iwid v_fill_least v_fill_most v_rbeg = some r) : Met l y_Row_someGapIsNoFiller w_Row_someGapIsNoFiller { frames := 3, cells := 0, slots := 0, locals := 65 } (q_PcP [.ref (ad 27)] D vwCl [(ad 2, .inr (1, [.int v_wall_steps, .ref (ad 3), .ref (ad 4), .int v_wall_pipeCount])), (ad 3, .inl (ki 2, n_wfree, .inl v_wfree)), (ad 5, .inr (2, [.ref (ad 6), .ref (ad 7), .ref (ad 8), .ref (ad 9), .ref (ad 10), .ref (ad 11), .ref (ad 12), .int v_items_mustSet, .int v_items_count])), (ad 6, .inl (ki 0, n_iwid, .inl v_iwid)), (ad 13, .inr (3, [.int v_fill_least, .int v_fill_most])), (ad 27, .inr (7, [.ref (ad 2), .ref (ad 5), .ref (ad 13), .ref (ad 28)])), (ad 28, .inl (ki 0, n_rbeg, .inl v_rbeg))] (TYS ki)) (k2_QcV (.int (bI r))) 0 0 (fun _ => False) := by
  refine Met.ofW (cc := b_Row_someGapIsNoFiller) (maxL := 3) (ret := (some .boolean)) (by decide) rfl ?_
  intro p e s m args below meth c s₁ B hml hv
  obtain ⟨rfl, hP, hK, hE⟩ := hv
  have hx := B.exec
  have hb := B.bytes
  have hr := B.returns
  have hts := atoms_spec (ws := w_Row_someGapIsNoFiller) B.pre
  have hown : s.vm.findClass R_Row = some m.cls := findClass_of_methodNamed B.named
  have hlocks := B.notSynchronized
  have hn_Row : ∀ w ∈ u_ws R_Row F_Row 4, w ∈ w_Row_someGapIsNoFiller := (fun w h => List.mem_cons_of_mem _ (i_Row w h))
  have hn_Wall : ∀ w ∈ u_ws R_Wall F_Wall 4, w ∈ w_Row_someGapIsNoFiller := (fun w h => List.mem_cons_of_mem _ (i_Wall w h))
  have hL9 := hts (.fieldLink R_Row 9 "RoomFills$Row" "wall" "LRoomFills$Wall;") (List.mem_cons_of_mem _ m_306)
  have hL19 := hts (.fieldLink R_Row 19 "RoomFills$Row" "fillers" "LRoomFills$Fillers;") (List.mem_cons_of_mem _ m_308)
  have hL99 := hts (.fieldLink R_Row 99 "RoomFills$Wall" "steps" "I") (List.mem_cons_of_mem _ m_96)
  have hL102 := hts (.fieldLink R_Row 102 "RoomFills$Wall" "free" "[Z") (List.mem_cons_of_mem _ m_99)
  replace hP : va_P D vwCl [(ad 2, .inr (1, [.int v_wall_steps, .ref (ad 3), .ref (ad 4), .int v_wall_pipeCount])), (ad 3, .inl (ki 2, n_wfree, .inl v_wfree)), (ad 5, .inr (2, [.ref (ad 6), .ref (ad 7), .ref (ad 8), .ref (ad 9), .ref (ad 10), .ref (ad 11), .ref (ad 12), .int v_items_mustSet, .int v_items_count])), (ad 6, .inl (ki 0, n_iwid, .inl v_iwid)), (ad 13, .inr (3, [.int v_fill_least, .int v_fill_most])), (ad 27, .inr (7, [.ref (ad 2), .ref (ad 5), .ref (ad 13), .ref (ad 28)])), (ad 28, .inl (ki 0, n_rbeg, .inl v_rbeg))] s.heap := hP
  have hl := lv_entry ([.ref (ad 27)]) (n := 3) (Nat.le_of_ble_eq_true rfl)
  rw [lg_entry_eq]
  generalize (lg_sl ([.ref (ad 27)]) ++ List.replicate (3 - (lg_sl ([.ref (ad 27)])).length) Slot.unset).toArray = ls at hl ⊢
  replace hl : lv_has ls 3 [(0, .ref (ad 27))] := hl
  have key : ∀ n : Nat, (∀ (x1 : Int32) (x2 : Int32), f_Row_someGapIsNoFiller_cut N n_wfree n_iwid n_rbeg v_wall_steps v_wall_pipeCount v_wfree v_items_mustSet v_items_count v_iwid v_fill_least v_fill_most v_rbeg n 0 x1 x2 = some r → ∀ (ls : Array Slot), lv_has ls 3 [(0, .ref (ad 27)), (1, .int x1), (2, .int x2)] → W p l e (headSpec w_Row_someGapIsNoFiller { frames := 3, cells := 0, slots := 0, locals := 65 }).room s m ([.ref (ad 27)] : List Value).toArray below meth c s.heap [] 0 0 (MQ below (k2_QcV (.int (bI r))) ([.ref (ad 27)] : List Value).toArray s 0 0 (fun _ => False)) (F0 m 4 ls [])) := by
    intro n
    induction n with
    | zero =>
      exact fun x1 x2 hf => (nomatch (show none = some _ from hf))
    | succ n ih =>
      intro x1 x2 hf ls hl
      rw [f_Row_someGapIsNoFiller_cut_0] at hf
      refine lv_iload_n hx hb d_Row_someGapIsNoFiller_4 rfl (lv_at hl 2 rfl) ?_
      refine lv_aload_n hx hb d_Row_someGapIsNoFiller_5 rfl (lv_at hl 0 rfl) ?_
      refine va_get (D := D) (ci := 7) (v := .ref (ad 2)) (C := R_Row) (T := F_Row) (N := 4) hx hb hts hn_Row hown hK hP 5 rfl rfl 0 (by decide) hL9 (fun _ h9 => h9) rfl d_Row_someGapIsNoFiller_6 ?_
      refine va_get (D := D) (ci := 1) (v := .int v_wall_steps) (C := R_Wall) (T := F_Wall) (N := 4) hx hb hts hn_Wall hown hK hP 0 rfl rfl 0 (by decide) hL99 (fun _ h9 => h9) rfl d_Row_someGapIsNoFiller_9 ?_
      refine lv_icmp_ge (tgt := 66) hx hb d_Row_someGapIsNoFiller_12 (by decide) (fun c_1 => ?_) (fun c_1 => ?_)
      · replace hf := q_it hf c_1
        refine lv_iload_n hx hb d_Row_someGapIsNoFiller_66 rfl (lv_at hl 1 rfl) ?_
        refine lv_if_le (tgt := 85) hx hb d_Row_someGapIsNoFiller_67 (by decide) (fun c_2 => ?_) (fun c_2 => ?_)
        · replace hf := q_it hf c_2
          refine lv_iconst (v := 0) hx hb d_Row_someGapIsNoFiller_85 (by decide) ?_
          cases hf
          exact W.zret (v := bI false) hx hb hr (bI_nar _) (fun t ht hW => ⟨rfl, ht⟩) (fun q h => nomatch h) d_Row_someGapIsNoFiller_86
        replace hf := q_ie hf c_2
        refine lv_aload_n hx hb d_Row_someGapIsNoFiller_70 rfl (lv_at hl 0 rfl) ?_
        refine va_get (D := D) (ci := 7) (v := .ref (ad 13)) (C := R_Row) (T := F_Row) (N := 4) hx hb hts hn_Row hown hK hP 5 rfl rfl 2 (by decide) hL19 (fun _ h9 => h9) rfl d_Row_someGapIsNoFiller_71 ?_
        refine lv_iload_n hx hb d_Row_someGapIsNoFiller_74 rfl (lv_at hl 1 rfl) ?_
        obtain ⟨r_3, hc_3, hf⟩ := q_mb hf
        refine q_pcall (W.runV (As := [.int x1]) (rest := []) ⟨hx, hb, hml, hown, hts⟩ (c_Fillers_isWidth l D ad ki v_fill_least v_fill_most x1 N r_3 hc_3) (cwV 1 hts (q_goodV ⟨m_546, m_547, m_548, m_58⟩ m_549) rfl rfl rfl (by decide +kernel) ⟨Nat.le_of_ble_eq_true rfl, Nat.le_of_ble_eq_true rfl⟩) (q_preVP (wc := [(ad 13, .inr (3, [.int v_fill_least, .int v_fill_most]))]) hE hK hP [4] rfl 4 3 rfl rfl) rfl rfl hl.1 rfl (lv_room (Nat.le_of_ble_eq_true rfl)) d_Row_someGapIsNoFiller_75 ⟨Nat.le_of_ble_eq_true rfl, Nat.le_of_ble_eq_true rfl⟩) ?_
        refine zv_ne (tgt := 85) hx hb d_Row_someGapIsNoFiller_78 (by decide) (fun c_4 => ?_) (fun c_4 => ?_)
        · replace hf := q_it hf c_4
          refine lv_iconst (v := 0) hx hb d_Row_someGapIsNoFiller_85 (by decide) ?_
          cases hf
          exact W.zret (v := bI false) hx hb hr (bI_nar _) (fun t ht hW => ⟨rfl, ht⟩) (fun q h => nomatch h) d_Row_someGapIsNoFiller_86
        replace hf := q_ie hf c_4
        refine lv_iconst (v := 1) hx hb d_Row_someGapIsNoFiller_81 (by decide) ?_
        refine lv_goto (tgt := 86) hx hb d_Row_someGapIsNoFiller_82 (by decide) ?_
        cases hf
        exact W.zret (v := bI true) hx hb hr (bI_nar _) (fun t ht hW => ⟨rfl, ht⟩) (fun q h => nomatch h) d_Row_someGapIsNoFiller_86
      replace hf := q_ie hf c_1
      refine lv_aload_n hx hb d_Row_someGapIsNoFiller_15 rfl (lv_at hl 0 rfl) ?_
      refine va_get (D := D) (ci := 7) (v := .ref (ad 2)) (C := R_Row) (T := F_Row) (N := 4) hx hb hts hn_Row hown hK hP 5 rfl rfl 0 (by decide) hL9 (fun _ h9 => h9) rfl d_Row_someGapIsNoFiller_16 ?_
      refine va_get (D := D) (ci := 1) (v := .ref (ad 3)) (C := R_Wall) (T := F_Wall) (N := 4) hx hb hts hn_Wall hown hK hP 0 rfl rfl 1 (by decide) hL102 (fun _ h9 => h9) rfl d_Row_someGapIsNoFiller_19 ?_
      refine lv_iload_n hx hb d_Row_someGapIsNoFiller_22 rfl (lv_at hl 2 rfl) ?_
      obtain ⟨hi_5, hf⟩ := q_ck hf
      refine va_zald hx hb hK hP 1 2 rfl rfl hi_5 d_Row_someGapIsNoFiller_23 ?_
      refine lv_if_ne (tgt := 41) hx hb d_Row_someGapIsNoFiller_24 (by decide) (fun c_6 => ?_) (fun c_6 => ?_)
      · replace hf := q_ie hf c_6
        refine lv_iload_n hx hb d_Row_someGapIsNoFiller_41 rfl (lv_at hl 1 rfl) ?_
        refine lv_if_le (tgt := 58) hx hb d_Row_someGapIsNoFiller_42 (by decide) (fun c_7 => ?_) (fun c_7 => ?_)
        · replace hf := q_it hf c_7
          refine lv_iconst (v := 0) hx hb d_Row_someGapIsNoFiller_58 (by decide) ?_
          refine lv_istore_n (lv' := [(1, .int 0), (0, .ref (ad 27)), (2, .int x2)]) hx hb d_Row_someGapIsNoFiller_59 rfl hl (by decide) rfl (fun ls hl => ?_)
          refine lv_iinc (v := (x2 + 1)) (lv' := [(2, .int (x2 + 1)), (1, .int 0), (0, .ref (ad 27))]) hx hb d_Row_someGapIsNoFiller_60 hl (k := 2) rfl rfl (by decide) rfl (fun ls hl => ?_)
          refine lv_goto (tgt := 4) hx hb d_Row_someGapIsNoFiller_63 (by decide) ?_
          exact (ih) 0 (x2 + 1) hf ls (lv_sub hl [2, 1, 0] rfl)
        replace hf := q_ie hf c_7
        refine lv_aload_n hx hb d_Row_someGapIsNoFiller_45 rfl (lv_at hl 0 rfl) ?_
        refine va_get (D := D) (ci := 7) (v := .ref (ad 13)) (C := R_Row) (T := F_Row) (N := 4) hx hb hts hn_Row hown hK hP 5 rfl rfl 2 (by decide) hL19 (fun _ h9 => h9) rfl d_Row_someGapIsNoFiller_46 ?_
        refine lv_iload_n hx hb d_Row_someGapIsNoFiller_49 rfl (lv_at hl 1 rfl) ?_
        obtain ⟨r_8, hc_8, hf⟩ := q_mb hf
        refine q_pcall (W.runV (As := [.int x1]) (rest := []) ⟨hx, hb, hml, hown, hts⟩ (c_Fillers_isWidth l D ad ki v_fill_least v_fill_most x1 N r_8 hc_8) (cwV 1 hts (q_goodV ⟨m_546, m_547, m_548, m_58⟩ m_549) rfl rfl rfl (by decide +kernel) ⟨Nat.le_of_ble_eq_true rfl, Nat.le_of_ble_eq_true rfl⟩) (q_preVP (wc := [(ad 13, .inr (3, [.int v_fill_least, .int v_fill_most]))]) hE hK hP [4] rfl 4 3 rfl rfl) rfl rfl hl.1 rfl (lv_room (Nat.le_of_ble_eq_true rfl)) d_Row_someGapIsNoFiller_50 ⟨Nat.le_of_ble_eq_true rfl, Nat.le_of_ble_eq_true rfl⟩) ?_
        refine zv_ne (tgt := 58) hx hb d_Row_someGapIsNoFiller_53 (by decide) (fun c_9 => ?_) (fun c_9 => ?_)
        · replace hf := q_it hf c_9
          refine lv_iconst (v := 0) hx hb d_Row_someGapIsNoFiller_58 (by decide) ?_
          refine lv_istore_n (lv' := [(1, .int 0), (0, .ref (ad 27)), (2, .int x2)]) hx hb d_Row_someGapIsNoFiller_59 rfl hl (by decide) rfl (fun ls hl => ?_)
          refine lv_iinc (v := (x2 + 1)) (lv' := [(2, .int (x2 + 1)), (1, .int 0), (0, .ref (ad 27))]) hx hb d_Row_someGapIsNoFiller_60 hl (k := 2) rfl rfl (by decide) rfl (fun ls hl => ?_)
          refine lv_goto (tgt := 4) hx hb d_Row_someGapIsNoFiller_63 (by decide) ?_
          exact (ih) 0 (x2 + 1) hf ls (lv_sub hl [2, 1, 0] rfl)
        replace hf := q_ie hf c_9
        refine lv_iconst (v := 1) hx hb d_Row_someGapIsNoFiller_56 (by decide) ?_
        cases hf
        exact W.zret (v := bI true) hx hb hr (bI_nar _) (fun t ht hW => ⟨rfl, ht⟩) (fun q h => nomatch h) d_Row_someGapIsNoFiller_57
      replace hf := q_it hf c_6
      refine lv_aload_n hx hb d_Row_someGapIsNoFiller_27 rfl (lv_at hl 0 rfl) ?_
      refine lv_iload_n hx hb d_Row_someGapIsNoFiller_28 rfl (lv_at hl 2 rfl) ?_
      obtain ⟨r_10, hc_10, hf⟩ := q_mb hf
      refine q_pcall (W.runV (As := [.int x2]) (rest := []) ⟨hx, hb, hml, hown, hts⟩ (c_Row_isCovered l D ad ki n_iwid n_rbeg v_items_mustSet v_items_count v_iwid v_rbeg x2 N r_10 hc_10) (cwV 1 hts (q_goodV ⟨m_516, m_518, m_19, m_62⟩ m_519) rfl rfl rfl (by decide +kernel) ⟨Nat.le_of_ble_eq_true rfl, Nat.le_of_ble_eq_true rfl⟩) (q_preVP (wc := [(ad 5, .inr (2, [.ref (ad 6), .ref (ad 7), .ref (ad 8), .ref (ad 9), .ref (ad 10), .ref (ad 11), .ref (ad 12), .int v_items_mustSet, .int v_items_count])), (ad 6, .inl (ki 0, n_iwid, .inl v_iwid)), (ad 27, .inr (7, [.ref (ad 2), .ref (ad 5), .ref (ad 13), .ref (ad 28)])), (ad 28, .inl (ki 0, n_rbeg, .inl v_rbeg))]) hE hK hP [2, 3, 5, 6] rfl 5 7 rfl rfl) rfl rfl hl.1 rfl (lv_room (Nat.le_of_ble_eq_true rfl)) d_Row_someGapIsNoFiller_29 ⟨Nat.le_of_ble_eq_true rfl, Nat.le_of_ble_eq_true rfl⟩) ?_
      refine zv_ne (tgt := 41) hx hb d_Row_someGapIsNoFiller_32 (by decide) (fun c_11 => ?_) (fun c_11 => ?_)
      · replace hf := q_it hf c_11
        refine lv_iload_n hx hb d_Row_someGapIsNoFiller_41 rfl (lv_at hl 1 rfl) ?_
        refine lv_if_le (tgt := 58) hx hb d_Row_someGapIsNoFiller_42 (by decide) (fun c_12 => ?_) (fun c_12 => ?_)
        · replace hf := q_it hf c_12
          refine lv_iconst (v := 0) hx hb d_Row_someGapIsNoFiller_58 (by decide) ?_
          refine lv_istore_n (lv' := [(1, .int 0), (0, .ref (ad 27)), (2, .int x2)]) hx hb d_Row_someGapIsNoFiller_59 rfl hl (by decide) rfl (fun ls hl => ?_)
          refine lv_iinc (v := (x2 + 1)) (lv' := [(2, .int (x2 + 1)), (1, .int 0), (0, .ref (ad 27))]) hx hb d_Row_someGapIsNoFiller_60 hl (k := 2) rfl rfl (by decide) rfl (fun ls hl => ?_)
          refine lv_goto (tgt := 4) hx hb d_Row_someGapIsNoFiller_63 (by decide) ?_
          exact (ih) 0 (x2 + 1) hf ls (lv_sub hl [2, 1, 0] rfl)
        replace hf := q_ie hf c_12
        refine lv_aload_n hx hb d_Row_someGapIsNoFiller_45 rfl (lv_at hl 0 rfl) ?_
        refine va_get (D := D) (ci := 7) (v := .ref (ad 13)) (C := R_Row) (T := F_Row) (N := 4) hx hb hts hn_Row hown hK hP 5 rfl rfl 2 (by decide) hL19 (fun _ h9 => h9) rfl d_Row_someGapIsNoFiller_46 ?_
        refine lv_iload_n hx hb d_Row_someGapIsNoFiller_49 rfl (lv_at hl 1 rfl) ?_
        obtain ⟨r_13, hc_13, hf⟩ := q_mb hf
        refine q_pcall (W.runV (As := [.int x1]) (rest := []) ⟨hx, hb, hml, hown, hts⟩ (c_Fillers_isWidth l D ad ki v_fill_least v_fill_most x1 N r_13 hc_13) (cwV 1 hts (q_goodV ⟨m_546, m_547, m_548, m_58⟩ m_549) rfl rfl rfl (by decide +kernel) ⟨Nat.le_of_ble_eq_true rfl, Nat.le_of_ble_eq_true rfl⟩) (q_preVP (wc := [(ad 13, .inr (3, [.int v_fill_least, .int v_fill_most]))]) hE hK hP [4] rfl 4 3 rfl rfl) rfl rfl hl.1 rfl (lv_room (Nat.le_of_ble_eq_true rfl)) d_Row_someGapIsNoFiller_50 ⟨Nat.le_of_ble_eq_true rfl, Nat.le_of_ble_eq_true rfl⟩) ?_
        refine zv_ne (tgt := 58) hx hb d_Row_someGapIsNoFiller_53 (by decide) (fun c_14 => ?_) (fun c_14 => ?_)
        · replace hf := q_it hf c_14
          refine lv_iconst (v := 0) hx hb d_Row_someGapIsNoFiller_58 (by decide) ?_
          refine lv_istore_n (lv' := [(1, .int 0), (0, .ref (ad 27)), (2, .int x2)]) hx hb d_Row_someGapIsNoFiller_59 rfl hl (by decide) rfl (fun ls hl => ?_)
          refine lv_iinc (v := (x2 + 1)) (lv' := [(2, .int (x2 + 1)), (1, .int 0), (0, .ref (ad 27))]) hx hb d_Row_someGapIsNoFiller_60 hl (k := 2) rfl rfl (by decide) rfl (fun ls hl => ?_)
          refine lv_goto (tgt := 4) hx hb d_Row_someGapIsNoFiller_63 (by decide) ?_
          exact (ih) 0 (x2 + 1) hf ls (lv_sub hl [2, 1, 0] rfl)
        replace hf := q_ie hf c_14
        refine lv_iconst (v := 1) hx hb d_Row_someGapIsNoFiller_56 (by decide) ?_
        cases hf
        exact W.zret (v := bI true) hx hb hr (bI_nar _) (fun t ht hW => ⟨rfl, ht⟩) (fun q h => nomatch h) d_Row_someGapIsNoFiller_57
      replace hf := q_ie hf c_11
      refine lv_iinc (v := (x1 + 1)) (lv' := [(1, .int (x1 + 1)), (0, .ref (ad 27)), (2, .int x2)]) hx hb d_Row_someGapIsNoFiller_35 hl (k := 1) rfl rfl (by decide) rfl (fun ls hl => ?_)
      refine lv_goto (tgt := 60) hx hb d_Row_someGapIsNoFiller_38 (by decide) ?_
      refine lv_iinc (v := (x2 + 1)) (lv' := [(2, .int (x2 + 1)), (1, .int (x1 + 1)), (0, .ref (ad 27))]) hx hb d_Row_someGapIsNoFiller_60 hl (k := 2) rfl rfl (by decide) rfl (fun ls hl => ?_)
      refine lv_goto (tgt := 4) hx hb d_Row_someGapIsNoFiller_63 (by decide) ?_
      exact (ih) (x1 + 1) (x2 + 1) hf ls (lv_sub hl [2, 1, 0] rfl)
  unfold f_Row_someGapIsNoFiller at hf
  refine lv_iconst (v := 0) hx hb d_Row_someGapIsNoFiller_0 (by decide) ?_
  refine lv_istore_n (lv' := [(1, .int 0), (0, .ref (ad 27))]) hx hb d_Row_someGapIsNoFiller_1 rfl hl (by decide) rfl (fun ls hl => ?_)
  refine lv_iconst (v := 0) hx hb d_Row_someGapIsNoFiller_2 (by decide) ?_
  refine lv_istore_n (lv' := [(2, .int 0), (1, .int 0), (0, .ref (ad 27))]) hx hb d_Row_someGapIsNoFiller_3 rfl hl (by decide) rfl (fun ls hl => ?_)
  exact (key N) 0 0 hf ls (lv_sub hl [2, 1, 0] rfl)
def f_Row_someIsOffTheWall_cut (N : Nat) (n_iwid : Nat) (n_rbeg : Nat) (v_wall_steps : Int32) (v_wall_pipeCount : Int32) (v_items_mustSet : Int32) (v_items_count : Int32) (v_iwid : Nat → Int32) (v_rbeg : Nat → Int32) : Nat → Nat → Int32 → Option (Bool)
  | 0, _, _ => none
  | n + 1, t, x1 => (if v_items_count ≤ x1 then (some false) else (Option.bind (f_Row_isPut N n_rbeg v_rbeg x1) (fun r_2 => (if r_2 = true then (if x1 < 0 ∨ n_rbeg ≤ Int32.toNatClampNeg x1 then none else (if x1 < 0 ∨ n_iwid ≤ Int32.toNatClampNeg x1 then none else (Option.bind (f_Wall_holds N v_wall_steps v_wall_pipeCount (v_rbeg (Int32.toNatClampNeg x1)) (v_iwid (Int32.toNatClampNeg x1))) (fun r_6 => (if r_6 = true then (f_Row_someIsOffTheWall_cut N n_iwid n_rbeg v_wall_steps v_wall_pipeCount v_items_mustSet v_items_count v_iwid v_rbeg n 0 (x1 + 1)) else (some true)))))) else (f_Row_someIsOffTheWall_cut N n_iwid n_rbeg v_wall_steps v_wall_pipeCount v_items_mustSet v_items_count v_iwid v_rbeg n 0 (x1 + 1))))))
theorem f_Row_someIsOffTheWall_cut_0 (N : Nat) (n_iwid : Nat) (n_rbeg : Nat) (v_wall_steps : Int32) (v_wall_pipeCount : Int32) (v_items_mustSet : Int32) (v_items_count : Int32) (v_iwid : Nat → Int32) (v_rbeg : Nat → Int32) (n : Nat) (x1 : Int32) : f_Row_someIsOffTheWall_cut N n_iwid n_rbeg v_wall_steps v_wall_pipeCount v_items_mustSet v_items_count v_iwid v_rbeg (n + 1) 0 x1 = (if v_items_count ≤ x1 then (some false) else (Option.bind (f_Row_isPut N n_rbeg v_rbeg x1) (fun r_2 => (if r_2 = true then (if x1 < 0 ∨ n_rbeg ≤ Int32.toNatClampNeg x1 then none else (if x1 < 0 ∨ n_iwid ≤ Int32.toNatClampNeg x1 then none else (Option.bind (f_Wall_holds N v_wall_steps v_wall_pipeCount (v_rbeg (Int32.toNatClampNeg x1)) (v_iwid (Int32.toNatClampNeg x1))) (fun r_6 => (if r_6 = true then (f_Row_someIsOffTheWall_cut N n_iwid n_rbeg v_wall_steps v_wall_pipeCount v_items_mustSet v_items_count v_iwid v_rbeg n 0 (x1 + 1)) else (some true)))))) else (f_Row_someIsOffTheWall_cut N n_iwid n_rbeg v_wall_steps v_wall_pipeCount v_items_mustSet v_items_count v_iwid v_rbeg n 0 (x1 + 1)))))) := rfl
def f_Row_someIsOffTheWall (N : Nat) (n_iwid : Nat) (n_rbeg : Nat) (v_wall_steps : Int32) (v_wall_pipeCount : Int32) (v_items_mustSet : Int32) (v_items_count : Int32) (v_iwid : Nat → Int32) (v_rbeg : Nat → Int32)  : Option (Bool) := (f_Row_someIsOffTheWall_cut N n_iwid n_rbeg v_wall_steps v_wall_pipeCount v_items_mustSet v_items_count v_iwid v_rbeg N 0 0)
set_option maxRecDepth 100000 in
set_option maxHeartbeats 4000000 in
theorem c_Row_someIsOffTheWall (l : Launch) (D : va_G) (ad : Nat → Nat) (ki : Nat → ClassId) (n_iwid : Nat) (n_rbeg : Nat) (v_wall_steps : Int32) (v_wall_pipeCount : Int32) (v_items_mustSet : Int32) (v_items_count : Int32) (v_iwid : Nat → Int32) (v_rbeg : Nat → Int32)  (N : Nat) (r : Bool) (hf : f_Row_someIsOffTheWall N n_iwid n_rbeg v_wall_steps v_wall_pipeCount v_items_mustSet v_items_count v_iwid v_rbeg = some r) : Met l y_Row_someIsOffTheWall w_Row_someIsOffTheWall { frames := 1, cells := 0, slots := 0, locals := 22 } (q_PcP [.ref (ad 27)] D vwCl [(ad 2, .inr (1, [.int v_wall_steps, .ref (ad 3), .ref (ad 4), .int v_wall_pipeCount])), (ad 5, .inr (2, [.ref (ad 6), .ref (ad 7), .ref (ad 8), .ref (ad 9), .ref (ad 10), .ref (ad 11), .ref (ad 12), .int v_items_mustSet, .int v_items_count])), (ad 6, .inl (ki 0, n_iwid, .inl v_iwid)), (ad 27, .inr (7, [.ref (ad 2), .ref (ad 5), .ref (ad 13), .ref (ad 28)])), (ad 28, .inl (ki 0, n_rbeg, .inl v_rbeg))] (TYS ki)) (k2_QcV (.int (bI r))) 0 0 (fun _ => False) := by
  refine Met.ofW (cc := b_Row_someIsOffTheWall) (maxL := 2) (ret := (some .boolean)) (by decide) rfl ?_
  intro p e s m args below meth c s₁ B hml hv
  obtain ⟨rfl, hP, hK, hE⟩ := hv
  have hx := B.exec
  have hb := B.bytes
  have hr := B.returns
  have hts := atoms_spec (ws := w_Row_someIsOffTheWall) B.pre
  have hown : s.vm.findClass R_Row = some m.cls := findClass_of_methodNamed B.named
  have hlocks := B.notSynchronized
  have hn_Items : ∀ w ∈ u_ws R_Items F_Items 9, w ∈ w_Row_someIsOffTheWall := (fun w h => List.mem_cons_of_mem _ (i_Items w h))
  have hn_Row : ∀ w ∈ u_ws R_Row F_Row 4, w ∈ w_Row_someIsOffTheWall := (fun w h => List.mem_cons_of_mem _ (i_Row w h))
  have hL9 := hts (.fieldLink R_Row 9 "RoomFills$Row" "wall" "LRoomFills$Wall;") (List.mem_cons_of_mem _ m_306)
  have hL15 := hts (.fieldLink R_Row 15 "RoomFills$Row" "items" "LRoomFills$Items;") (List.mem_cons_of_mem _ m_307)
  have hL23 := hts (.fieldLink R_Row 23 "RoomFills$Row" "begin" "[I") (List.mem_cons_of_mem _ m_309)
  have hL66 := hts (.fieldLink R_Row 66 "RoomFills$Items" "count" "I") (List.mem_cons_of_mem _ m_142)
  have hL81 := hts (.fieldLink R_Row 81 "RoomFills$Items" "width" "[I") (List.mem_cons_of_mem _ m_122)
  replace hP : va_P D vwCl [(ad 2, .inr (1, [.int v_wall_steps, .ref (ad 3), .ref (ad 4), .int v_wall_pipeCount])), (ad 5, .inr (2, [.ref (ad 6), .ref (ad 7), .ref (ad 8), .ref (ad 9), .ref (ad 10), .ref (ad 11), .ref (ad 12), .int v_items_mustSet, .int v_items_count])), (ad 6, .inl (ki 0, n_iwid, .inl v_iwid)), (ad 27, .inr (7, [.ref (ad 2), .ref (ad 5), .ref (ad 13), .ref (ad 28)])), (ad 28, .inl (ki 0, n_rbeg, .inl v_rbeg))] s.heap := hP
  have hl := lv_entry ([.ref (ad 27)]) (n := 2) (Nat.le_of_ble_eq_true rfl)
  rw [lg_entry_eq]
  generalize (lg_sl ([.ref (ad 27)]) ++ List.replicate (2 - (lg_sl ([.ref (ad 27)])).length) Slot.unset).toArray = ls at hl ⊢
  replace hl : lv_has ls 2 [(0, .ref (ad 27))] := hl
  have key : ∀ n : Nat, (∀ (x1 : Int32), f_Row_someIsOffTheWall_cut N n_iwid n_rbeg v_wall_steps v_wall_pipeCount v_items_mustSet v_items_count v_iwid v_rbeg n 0 x1 = some r → ∀ (ls : Array Slot), lv_has ls 2 [(0, .ref (ad 27)), (1, .int x1)] → W p l e (headSpec w_Row_someIsOffTheWall { frames := 1, cells := 0, slots := 0, locals := 22 }).room s m ([.ref (ad 27)] : List Value).toArray below meth c s.heap [] 0 0 (MQ below (k2_QcV (.int (bI r))) ([.ref (ad 27)] : List Value).toArray s 0 0 (fun _ => False)) (F0 m 2 ls [])) := by
    intro n
    induction n with
    | zero =>
      exact fun x1 hf => (nomatch (show none = some _ from hf))
    | succ n ih =>
      intro x1 hf ls hl
      rw [f_Row_someIsOffTheWall_cut_0] at hf
      refine lv_iload_n hx hb d_Row_someIsOffTheWall_2 rfl (lv_at hl 1 rfl) ?_
      refine lv_aload_n hx hb d_Row_someIsOffTheWall_3 rfl (lv_at hl 0 rfl) ?_
      refine va_get (D := D) (ci := 7) (v := .ref (ad 5)) (C := R_Row) (T := F_Row) (N := 4) hx hb hts hn_Row hown hK hP 3 rfl rfl 1 (by decide) hL15 (fun _ h9 => h9) rfl d_Row_someIsOffTheWall_4 ?_
      refine va_get (D := D) (ci := 2) (v := .int v_items_count) (C := R_Items) (T := F_Items) (N := 9) hx hb hts hn_Items hown hK hP 1 rfl rfl 8 (by decide) hL66 (fun _ h9 => h9) rfl d_Row_someIsOffTheWall_7 ?_
      refine lv_icmp_ge (tgt := 54) hx hb d_Row_someIsOffTheWall_10 (by decide) (fun c_1 => ?_) (fun c_1 => ?_)
      · replace hf := q_it hf c_1
        refine lv_iconst (v := 0) hx hb d_Row_someIsOffTheWall_54 (by decide) ?_
        cases hf
        exact W.zret (v := bI false) hx hb hr (bI_nar _) (fun t ht hW => ⟨rfl, ht⟩) (fun q h => nomatch h) d_Row_someIsOffTheWall_55
      replace hf := q_ie hf c_1
      refine lv_aload_n hx hb d_Row_someIsOffTheWall_13 rfl (lv_at hl 0 rfl) ?_
      refine lv_iload_n hx hb d_Row_someIsOffTheWall_14 rfl (lv_at hl 1 rfl) ?_
      obtain ⟨r_2, hc_2, hf⟩ := q_mb hf
      refine q_pcall (W.runV (As := [.int x1]) (rest := []) ⟨hx, hb, hml, hown, hts⟩ (c_Row_isPut l D ad ki n_rbeg v_rbeg x1 N r_2 hc_2) (cwV 1 hts (q_goodV ⟨m_492, m_494, m_14, m_62⟩ m_495) rfl rfl rfl (by decide +kernel) ⟨Nat.le_of_ble_eq_true rfl, Nat.le_of_ble_eq_true rfl⟩) (q_preVP (wc := [(ad 27, .inr (7, [.ref (ad 2), .ref (ad 5), .ref (ad 13), .ref (ad 28)])), (ad 28, .inl (ki 0, n_rbeg, .inl v_rbeg))]) hE hK hP [3, 4] rfl 3 7 rfl rfl) rfl rfl hl.1 rfl (lv_room (Nat.le_of_ble_eq_true rfl)) d_Row_someIsOffTheWall_15 ⟨Nat.le_of_ble_eq_true rfl, Nat.le_of_ble_eq_true rfl⟩) ?_
      refine zv_eq (tgt := 48) hx hb d_Row_someIsOffTheWall_18 (by decide) (fun c_3 => ?_) (fun c_3 => ?_)
      · replace hf := q_ie hf c_3
        refine lv_iinc (v := (x1 + 1)) (lv' := [(1, .int (x1 + 1)), (0, .ref (ad 27))]) hx hb d_Row_someIsOffTheWall_48 hl (k := 1) rfl rfl (by decide) rfl (fun ls hl => ?_)
        refine lv_goto (tgt := 2) hx hb d_Row_someIsOffTheWall_51 (by decide) ?_
        exact (ih) (x1 + 1) hf ls (lv_sub hl [1, 0] rfl)
      replace hf := q_it hf c_3
      refine lv_aload_n hx hb d_Row_someIsOffTheWall_21 rfl (lv_at hl 0 rfl) ?_
      refine va_get (D := D) (ci := 7) (v := .ref (ad 2)) (C := R_Row) (T := F_Row) (N := 4) hx hb hts hn_Row hown hK hP 3 rfl rfl 0 (by decide) hL9 (fun _ h9 => h9) rfl d_Row_someIsOffTheWall_22 ?_
      refine lv_aload_n hx hb d_Row_someIsOffTheWall_25 rfl (lv_at hl 0 rfl) ?_
      refine va_get (D := D) (ci := 7) (v := .ref (ad 28)) (C := R_Row) (T := F_Row) (N := 4) hx hb hts hn_Row hown hK hP 3 rfl rfl 3 (by decide) hL23 (fun _ h9 => h9) rfl d_Row_someIsOffTheWall_26 ?_
      refine lv_iload_n hx hb d_Row_someIsOffTheWall_29 rfl (lv_at hl 1 rfl) ?_
      obtain ⟨hi_4, hf⟩ := q_ck hf
      refine va_iald hx hb hK hP 4 0 rfl rfl hi_4 d_Row_someIsOffTheWall_30 ?_
      refine lv_aload_n hx hb d_Row_someIsOffTheWall_31 rfl (lv_at hl 0 rfl) ?_
      refine va_get (D := D) (ci := 7) (v := .ref (ad 5)) (C := R_Row) (T := F_Row) (N := 4) hx hb hts hn_Row hown hK hP 3 rfl rfl 1 (by decide) hL15 (fun _ h9 => h9) rfl d_Row_someIsOffTheWall_32 ?_
      refine va_get (D := D) (ci := 2) (v := .ref (ad 6)) (C := R_Items) (T := F_Items) (N := 9) hx hb hts hn_Items hown hK hP 1 rfl rfl 0 (by decide) hL81 (fun _ h9 => h9) rfl d_Row_someIsOffTheWall_35 ?_
      refine lv_iload_n hx hb d_Row_someIsOffTheWall_38 rfl (lv_at hl 1 rfl) ?_
      obtain ⟨hi_5, hf⟩ := q_ck hf
      refine va_iald hx hb hK hP 2 0 rfl rfl hi_5 d_Row_someIsOffTheWall_39 ?_
      obtain ⟨r_6, hc_6, hf⟩ := q_mb hf
      refine q_pcall (W.runV (As := [.int (v_rbeg (Int32.toNatClampNeg x1)), .int (v_iwid (Int32.toNatClampNeg x1))]) (rest := []) ⟨hx, hb, hml, hown, hts⟩ (c_Wall_holds l D ad ki v_wall_steps v_wall_pipeCount (v_rbeg (Int32.toNatClampNeg x1)) (v_iwid (Int32.toNatClampNeg x1)) N r_6 hc_6) (cwV 2 hts (q_goodV ⟨m_496, m_497, m_498, m_55⟩ m_499) rfl rfl rfl (by decide +kernel) ⟨Nat.le_of_ble_eq_true rfl, Nat.le_of_ble_eq_true rfl⟩) (q_preVP (wc := [(ad 2, .inr (1, [.int v_wall_steps, .ref (ad 3), .ref (ad 4), .int v_wall_pipeCount]))]) hE hK hP [0] rfl 0 1 rfl rfl) rfl rfl hl.1 rfl (lv_room (Nat.le_of_ble_eq_true rfl)) d_Row_someIsOffTheWall_40 ⟨Nat.le_of_ble_eq_true rfl, Nat.le_of_ble_eq_true rfl⟩) ?_
      refine zv_ne (tgt := 48) hx hb d_Row_someIsOffTheWall_43 (by decide) (fun c_7 => ?_) (fun c_7 => ?_)
      · replace hf := q_it hf c_7
        refine lv_iinc (v := (x1 + 1)) (lv' := [(1, .int (x1 + 1)), (0, .ref (ad 27))]) hx hb d_Row_someIsOffTheWall_48 hl (k := 1) rfl rfl (by decide) rfl (fun ls hl => ?_)
        refine lv_goto (tgt := 2) hx hb d_Row_someIsOffTheWall_51 (by decide) ?_
        exact (ih) (x1 + 1) hf ls (lv_sub hl [1, 0] rfl)
      replace hf := q_ie hf c_7
      refine lv_iconst (v := 1) hx hb d_Row_someIsOffTheWall_46 (by decide) ?_
      cases hf
      exact W.zret (v := bI true) hx hb hr (bI_nar _) (fun t ht hW => ⟨rfl, ht⟩) (fun q h => nomatch h) d_Row_someIsOffTheWall_47
  unfold f_Row_someIsOffTheWall at hf
  refine lv_iconst (v := 0) hx hb d_Row_someIsOffTheWall_0 (by decide) ?_
  refine lv_istore_n (lv' := [(1, .int 0), (0, .ref (ad 27))]) hx hb d_Row_someIsOffTheWall_1 rfl hl (by decide) rfl (fun ls hl => ?_)
  exact (key N) 0 hf ls (lv_sub hl [1, 0] rfl)
def f_Row_someIsOnAFreeStep_cut (N : Nat) (n_wfree : Nat) (n_iwid : Nat) (n_rbeg : Nat) (v_wall_steps : Int32) (v_wall_pipeCount : Int32) (v_wfree : Nat → Int32) (v_items_mustSet : Int32) (v_items_count : Int32) (v_iwid : Nat → Int32) (v_rbeg : Nat → Int32) : Nat → Nat → Int32 → Option (Bool)
  | 0, _, _ => none
  | n + 1, t, x1 => (if v_wall_steps ≤ x1 then (some false) else (if x1 < 0 ∨ n_wfree ≤ Int32.toNatClampNeg x1 then none else (if (v_wfree (Int32.toNatClampNeg x1)) = 0 then (f_Row_someIsOnAFreeStep_cut N n_wfree n_iwid n_rbeg v_wall_steps v_wall_pipeCount v_wfree v_items_mustSet v_items_count v_iwid v_rbeg n 0 (x1 + 1)) else (Option.bind (f_Row_isCovered N n_iwid n_rbeg v_items_mustSet v_items_count v_iwid v_rbeg x1) (fun r_4 => (if r_4 = true then (some true) else (f_Row_someIsOnAFreeStep_cut N n_wfree n_iwid n_rbeg v_wall_steps v_wall_pipeCount v_wfree v_items_mustSet v_items_count v_iwid v_rbeg n 0 (x1 + 1))))))))
theorem f_Row_someIsOnAFreeStep_cut_0 (N : Nat) (n_wfree : Nat) (n_iwid : Nat) (n_rbeg : Nat) (v_wall_steps : Int32) (v_wall_pipeCount : Int32) (v_wfree : Nat → Int32) (v_items_mustSet : Int32) (v_items_count : Int32) (v_iwid : Nat → Int32) (v_rbeg : Nat → Int32) (n : Nat) (x1 : Int32) : f_Row_someIsOnAFreeStep_cut N n_wfree n_iwid n_rbeg v_wall_steps v_wall_pipeCount v_wfree v_items_mustSet v_items_count v_iwid v_rbeg (n + 1) 0 x1 = (if v_wall_steps ≤ x1 then (some false) else (if x1 < 0 ∨ n_wfree ≤ Int32.toNatClampNeg x1 then none else (if (v_wfree (Int32.toNatClampNeg x1)) = 0 then (f_Row_someIsOnAFreeStep_cut N n_wfree n_iwid n_rbeg v_wall_steps v_wall_pipeCount v_wfree v_items_mustSet v_items_count v_iwid v_rbeg n 0 (x1 + 1)) else (Option.bind (f_Row_isCovered N n_iwid n_rbeg v_items_mustSet v_items_count v_iwid v_rbeg x1) (fun r_4 => (if r_4 = true then (some true) else (f_Row_someIsOnAFreeStep_cut N n_wfree n_iwid n_rbeg v_wall_steps v_wall_pipeCount v_wfree v_items_mustSet v_items_count v_iwid v_rbeg n 0 (x1 + 1)))))))) := rfl
def f_Row_someIsOnAFreeStep (N : Nat) (n_wfree : Nat) (n_iwid : Nat) (n_rbeg : Nat) (v_wall_steps : Int32) (v_wall_pipeCount : Int32) (v_wfree : Nat → Int32) (v_items_mustSet : Int32) (v_items_count : Int32) (v_iwid : Nat → Int32) (v_rbeg : Nat → Int32)  : Option (Bool) := (f_Row_someIsOnAFreeStep_cut N n_wfree n_iwid n_rbeg v_wall_steps v_wall_pipeCount v_wfree v_items_mustSet v_items_count v_iwid v_rbeg N 0 0)
set_option maxRecDepth 100000 in
set_option maxHeartbeats 4000000 in
theorem c_Row_someIsOnAFreeStep (l : Launch) (D : va_G) (ad : Nat → Nat) (ki : Nat → ClassId) (n_wfree : Nat) (n_iwid : Nat) (n_rbeg : Nat) (v_wall_steps : Int32) (v_wall_pipeCount : Int32) (v_wfree : Nat → Int32) (v_items_mustSet : Int32) (v_items_count : Int32) (v_iwid : Nat → Int32) (v_rbeg : Nat → Int32)  (N : Nat) (r : Bool) (hf : f_Row_someIsOnAFreeStep N n_wfree n_iwid n_rbeg v_wall_steps v_wall_pipeCount v_wfree v_items_mustSet v_items_count v_iwid v_rbeg = some r) : Met l y_Row_someIsOnAFreeStep w_Row_someIsOnAFreeStep { frames := 3, cells := 0, slots := 0, locals := 65 } (q_PcP [.ref (ad 27)] D vwCl [(ad 2, .inr (1, [.int v_wall_steps, .ref (ad 3), .ref (ad 4), .int v_wall_pipeCount])), (ad 3, .inl (ki 2, n_wfree, .inl v_wfree)), (ad 5, .inr (2, [.ref (ad 6), .ref (ad 7), .ref (ad 8), .ref (ad 9), .ref (ad 10), .ref (ad 11), .ref (ad 12), .int v_items_mustSet, .int v_items_count])), (ad 6, .inl (ki 0, n_iwid, .inl v_iwid)), (ad 27, .inr (7, [.ref (ad 2), .ref (ad 5), .ref (ad 13), .ref (ad 28)])), (ad 28, .inl (ki 0, n_rbeg, .inl v_rbeg))] (TYS ki)) (k2_QcV (.int (bI r))) 0 0 (fun _ => False) := by
  refine Met.ofW (cc := b_Row_someIsOnAFreeStep) (maxL := 2) (ret := (some .boolean)) (by decide) rfl ?_
  intro p e s m args below meth c s₁ B hml hv
  obtain ⟨rfl, hP, hK, hE⟩ := hv
  have hx := B.exec
  have hb := B.bytes
  have hr := B.returns
  have hts := atoms_spec (ws := w_Row_someIsOnAFreeStep) B.pre
  have hown : s.vm.findClass R_Row = some m.cls := findClass_of_methodNamed B.named
  have hlocks := B.notSynchronized
  have hn_Row : ∀ w ∈ u_ws R_Row F_Row 4, w ∈ w_Row_someIsOnAFreeStep := (fun w h => List.mem_cons_of_mem _ (i_Row w h))
  have hn_Wall : ∀ w ∈ u_ws R_Wall F_Wall 4, w ∈ w_Row_someIsOnAFreeStep := (fun w h => List.mem_cons_of_mem _ (i_Wall w h))
  have hL9 := hts (.fieldLink R_Row 9 "RoomFills$Row" "wall" "LRoomFills$Wall;") (List.mem_cons_of_mem _ m_306)
  have hL99 := hts (.fieldLink R_Row 99 "RoomFills$Wall" "steps" "I") (List.mem_cons_of_mem _ m_96)
  have hL102 := hts (.fieldLink R_Row 102 "RoomFills$Wall" "free" "[Z") (List.mem_cons_of_mem _ m_99)
  replace hP : va_P D vwCl [(ad 2, .inr (1, [.int v_wall_steps, .ref (ad 3), .ref (ad 4), .int v_wall_pipeCount])), (ad 3, .inl (ki 2, n_wfree, .inl v_wfree)), (ad 5, .inr (2, [.ref (ad 6), .ref (ad 7), .ref (ad 8), .ref (ad 9), .ref (ad 10), .ref (ad 11), .ref (ad 12), .int v_items_mustSet, .int v_items_count])), (ad 6, .inl (ki 0, n_iwid, .inl v_iwid)), (ad 27, .inr (7, [.ref (ad 2), .ref (ad 5), .ref (ad 13), .ref (ad 28)])), (ad 28, .inl (ki 0, n_rbeg, .inl v_rbeg))] s.heap := hP
  have hl := lv_entry ([.ref (ad 27)]) (n := 2) (Nat.le_of_ble_eq_true rfl)
  rw [lg_entry_eq]
  generalize (lg_sl ([.ref (ad 27)]) ++ List.replicate (2 - (lg_sl ([.ref (ad 27)])).length) Slot.unset).toArray = ls at hl ⊢
  replace hl : lv_has ls 2 [(0, .ref (ad 27))] := hl
  have key : ∀ n : Nat, (∀ (x1 : Int32), f_Row_someIsOnAFreeStep_cut N n_wfree n_iwid n_rbeg v_wall_steps v_wall_pipeCount v_wfree v_items_mustSet v_items_count v_iwid v_rbeg n 0 x1 = some r → ∀ (ls : Array Slot), lv_has ls 2 [(0, .ref (ad 27)), (1, .int x1)] → W p l e (headSpec w_Row_someIsOnAFreeStep { frames := 3, cells := 0, slots := 0, locals := 65 }).room s m ([.ref (ad 27)] : List Value).toArray below meth c s.heap [] 0 0 (MQ below (k2_QcV (.int (bI r))) ([.ref (ad 27)] : List Value).toArray s 0 0 (fun _ => False)) (F0 m 2 ls [])) := by
    intro n
    induction n with
    | zero =>
      exact fun x1 hf => (nomatch (show none = some _ from hf))
    | succ n ih =>
      intro x1 hf ls hl
      rw [f_Row_someIsOnAFreeStep_cut_0] at hf
      refine lv_iload_n hx hb d_Row_someIsOnAFreeStep_2 rfl (lv_at hl 1 rfl) ?_
      refine lv_aload_n hx hb d_Row_someIsOnAFreeStep_3 rfl (lv_at hl 0 rfl) ?_
      refine va_get (D := D) (ci := 7) (v := .ref (ad 2)) (C := R_Row) (T := F_Row) (N := 4) hx hb hts hn_Row hown hK hP 4 rfl rfl 0 (by decide) hL9 (fun _ h9 => h9) rfl d_Row_someIsOnAFreeStep_4 ?_
      refine va_get (D := D) (ci := 1) (v := .int v_wall_steps) (C := R_Wall) (T := F_Wall) (N := 4) hx hb hts hn_Wall hown hK hP 0 rfl rfl 0 (by decide) hL99 (fun _ h9 => h9) rfl d_Row_someIsOnAFreeStep_7 ?_
      refine lv_icmp_ge (tgt := 41) hx hb d_Row_someIsOnAFreeStep_10 (by decide) (fun c_1 => ?_) (fun c_1 => ?_)
      · replace hf := q_it hf c_1
        refine lv_iconst (v := 0) hx hb d_Row_someIsOnAFreeStep_41 (by decide) ?_
        cases hf
        exact W.zret (v := bI false) hx hb hr (bI_nar _) (fun t ht hW => ⟨rfl, ht⟩) (fun q h => nomatch h) d_Row_someIsOnAFreeStep_42
      replace hf := q_ie hf c_1
      refine lv_aload_n hx hb d_Row_someIsOnAFreeStep_13 rfl (lv_at hl 0 rfl) ?_
      refine va_get (D := D) (ci := 7) (v := .ref (ad 2)) (C := R_Row) (T := F_Row) (N := 4) hx hb hts hn_Row hown hK hP 4 rfl rfl 0 (by decide) hL9 (fun _ h9 => h9) rfl d_Row_someIsOnAFreeStep_14 ?_
      refine va_get (D := D) (ci := 1) (v := .ref (ad 3)) (C := R_Wall) (T := F_Wall) (N := 4) hx hb hts hn_Wall hown hK hP 0 rfl rfl 1 (by decide) hL102 (fun _ h9 => h9) rfl d_Row_someIsOnAFreeStep_17 ?_
      refine lv_iload_n hx hb d_Row_someIsOnAFreeStep_20 rfl (lv_at hl 1 rfl) ?_
      obtain ⟨hi_2, hf⟩ := q_ck hf
      refine va_zald hx hb hK hP 1 2 rfl rfl hi_2 d_Row_someIsOnAFreeStep_21 ?_
      refine lv_if_eq (tgt := 35) hx hb d_Row_someIsOnAFreeStep_22 (by decide) (fun c_3 => ?_) (fun c_3 => ?_)
      · replace hf := q_it hf c_3
        refine lv_iinc (v := (x1 + 1)) (lv' := [(1, .int (x1 + 1)), (0, .ref (ad 27))]) hx hb d_Row_someIsOnAFreeStep_35 hl (k := 1) rfl rfl (by decide) rfl (fun ls hl => ?_)
        refine lv_goto (tgt := 2) hx hb d_Row_someIsOnAFreeStep_38 (by decide) ?_
        exact (ih) (x1 + 1) hf ls (lv_sub hl [1, 0] rfl)
      replace hf := q_ie hf c_3
      refine lv_aload_n hx hb d_Row_someIsOnAFreeStep_25 rfl (lv_at hl 0 rfl) ?_
      refine lv_iload_n hx hb d_Row_someIsOnAFreeStep_26 rfl (lv_at hl 1 rfl) ?_
      obtain ⟨r_4, hc_4, hf⟩ := q_mb hf
      refine q_pcall (W.runV (As := [.int x1]) (rest := []) ⟨hx, hb, hml, hown, hts⟩ (c_Row_isCovered l D ad ki n_iwid n_rbeg v_items_mustSet v_items_count v_iwid v_rbeg x1 N r_4 hc_4) (cwV 1 hts (q_goodV ⟨m_516, m_518, m_19, m_62⟩ m_519) rfl rfl rfl (by decide +kernel) ⟨Nat.le_of_ble_eq_true rfl, Nat.le_of_ble_eq_true rfl⟩) (q_preVP (wc := [(ad 5, .inr (2, [.ref (ad 6), .ref (ad 7), .ref (ad 8), .ref (ad 9), .ref (ad 10), .ref (ad 11), .ref (ad 12), .int v_items_mustSet, .int v_items_count])), (ad 6, .inl (ki 0, n_iwid, .inl v_iwid)), (ad 27, .inr (7, [.ref (ad 2), .ref (ad 5), .ref (ad 13), .ref (ad 28)])), (ad 28, .inl (ki 0, n_rbeg, .inl v_rbeg))]) hE hK hP [2, 3, 4, 5] rfl 4 7 rfl rfl) rfl rfl hl.1 rfl (lv_room (Nat.le_of_ble_eq_true rfl)) d_Row_someIsOnAFreeStep_27 ⟨Nat.le_of_ble_eq_true rfl, Nat.le_of_ble_eq_true rfl⟩) ?_
      refine zv_eq (tgt := 35) hx hb d_Row_someIsOnAFreeStep_30 (by decide) (fun c_5 => ?_) (fun c_5 => ?_)
      · replace hf := q_ie hf c_5
        refine lv_iinc (v := (x1 + 1)) (lv' := [(1, .int (x1 + 1)), (0, .ref (ad 27))]) hx hb d_Row_someIsOnAFreeStep_35 hl (k := 1) rfl rfl (by decide) rfl (fun ls hl => ?_)
        refine lv_goto (tgt := 2) hx hb d_Row_someIsOnAFreeStep_38 (by decide) ?_
        exact (ih) (x1 + 1) hf ls (lv_sub hl [1, 0] rfl)
      replace hf := q_it hf c_5
      refine lv_iconst (v := 1) hx hb d_Row_someIsOnAFreeStep_33 (by decide) ?_
      cases hf
      exact W.zret (v := bI true) hx hb hr (bI_nar _) (fun t ht hW => ⟨rfl, ht⟩) (fun q h => nomatch h) d_Row_someIsOnAFreeStep_34
  unfold f_Row_someIsOnAFreeStep at hf
  refine lv_iconst (v := 0) hx hb d_Row_someIsOnAFreeStep_0 (by decide) ?_
  refine lv_istore_n (lv' := [(1, .int 0), (0, .ref (ad 27))]) hx hb d_Row_someIsOnAFreeStep_1 rfl hl (by decide) rfl (fun ls hl => ?_)
  exact (key N) 0 hf ls (lv_sub hl [1, 0] rfl)
def f_Row_someNeedIsNotMet_cut (N : Nat) (n_wpip : Nat) (n_iwid : Nat) (n_inee : Nat) (n_rbeg : Nat) (v_wall_steps : Int32) (v_wall_pipeCount : Int32) (v_wpip : Nat → Int32) (v_items_mustSet : Int32) (v_items_count : Int32) (v_iwid : Nat → Int32) (v_inee : Nat → Int32) (v_rbeg : Nat → Int32) : Nat → Nat → Int32 → Option (Bool)
  | 0, _, _ => none
  | n + 1, t, x1 => (if v_items_count ≤ x1 then (some false) else (Option.bind (f_Row_isPut N n_rbeg v_rbeg x1) (fun r_2 => (if r_2 = true then (if x1 < 0 ∨ n_rbeg ≤ Int32.toNatClampNeg x1 then none else (Option.bind (f_Items_isNeedMet N n_wpip n_iwid n_inee v_wall_steps v_wall_pipeCount v_wpip v_items_mustSet v_items_count v_iwid v_inee x1 (v_rbeg (Int32.toNatClampNeg x1))) (fun r_5 => (if r_5 = true then (f_Row_someNeedIsNotMet_cut N n_wpip n_iwid n_inee n_rbeg v_wall_steps v_wall_pipeCount v_wpip v_items_mustSet v_items_count v_iwid v_inee v_rbeg n 0 (x1 + 1)) else (some true))))) else (f_Row_someNeedIsNotMet_cut N n_wpip n_iwid n_inee n_rbeg v_wall_steps v_wall_pipeCount v_wpip v_items_mustSet v_items_count v_iwid v_inee v_rbeg n 0 (x1 + 1))))))
theorem f_Row_someNeedIsNotMet_cut_0 (N : Nat) (n_wpip : Nat) (n_iwid : Nat) (n_inee : Nat) (n_rbeg : Nat) (v_wall_steps : Int32) (v_wall_pipeCount : Int32) (v_wpip : Nat → Int32) (v_items_mustSet : Int32) (v_items_count : Int32) (v_iwid : Nat → Int32) (v_inee : Nat → Int32) (v_rbeg : Nat → Int32) (n : Nat) (x1 : Int32) : f_Row_someNeedIsNotMet_cut N n_wpip n_iwid n_inee n_rbeg v_wall_steps v_wall_pipeCount v_wpip v_items_mustSet v_items_count v_iwid v_inee v_rbeg (n + 1) 0 x1 = (if v_items_count ≤ x1 then (some false) else (Option.bind (f_Row_isPut N n_rbeg v_rbeg x1) (fun r_2 => (if r_2 = true then (if x1 < 0 ∨ n_rbeg ≤ Int32.toNatClampNeg x1 then none else (Option.bind (f_Items_isNeedMet N n_wpip n_iwid n_inee v_wall_steps v_wall_pipeCount v_wpip v_items_mustSet v_items_count v_iwid v_inee x1 (v_rbeg (Int32.toNatClampNeg x1))) (fun r_5 => (if r_5 = true then (f_Row_someNeedIsNotMet_cut N n_wpip n_iwid n_inee n_rbeg v_wall_steps v_wall_pipeCount v_wpip v_items_mustSet v_items_count v_iwid v_inee v_rbeg n 0 (x1 + 1)) else (some true))))) else (f_Row_someNeedIsNotMet_cut N n_wpip n_iwid n_inee n_rbeg v_wall_steps v_wall_pipeCount v_wpip v_items_mustSet v_items_count v_iwid v_inee v_rbeg n 0 (x1 + 1)))))) := rfl
def f_Row_someNeedIsNotMet (N : Nat) (n_wpip : Nat) (n_iwid : Nat) (n_inee : Nat) (n_rbeg : Nat) (v_wall_steps : Int32) (v_wall_pipeCount : Int32) (v_wpip : Nat → Int32) (v_items_mustSet : Int32) (v_items_count : Int32) (v_iwid : Nat → Int32) (v_inee : Nat → Int32) (v_rbeg : Nat → Int32)  : Option (Bool) := (f_Row_someNeedIsNotMet_cut N n_wpip n_iwid n_inee n_rbeg v_wall_steps v_wall_pipeCount v_wpip v_items_mustSet v_items_count v_iwid v_inee v_rbeg N 0 0)
set_option maxRecDepth 100000 in
set_option maxHeartbeats 4000000 in
theorem c_Row_someNeedIsNotMet (l : Launch) (D : va_G) (ad : Nat → Nat) (ki : Nat → ClassId) (n_wpip : Nat) (n_iwid : Nat) (n_inee : Nat) (n_rbeg : Nat) (v_wall_steps : Int32) (v_wall_pipeCount : Int32) (v_wpip : Nat → Int32) (v_items_mustSet : Int32) (v_items_count : Int32) (v_iwid : Nat → Int32) (v_inee : Nat → Int32) (v_rbeg : Nat → Int32)  (N : Nat) (r : Bool) (hf : f_Row_someNeedIsNotMet N n_wpip n_iwid n_inee n_rbeg v_wall_steps v_wall_pipeCount v_wpip v_items_mustSet v_items_count v_iwid v_inee v_rbeg = some r) : Met l y_Row_someNeedIsNotMet w_Row_someNeedIsNotMet { frames := 2, cells := 0, slots := 0, locals := 47 } (q_PcP [.ref (ad 27)] D vwCl [(ad 2, .inr (1, [.int v_wall_steps, .ref (ad 3), .ref (ad 4), .int v_wall_pipeCount])), (ad 4, .inl (ki 0, n_wpip, .inl v_wpip)), (ad 5, .inr (2, [.ref (ad 6), .ref (ad 7), .ref (ad 8), .ref (ad 9), .ref (ad 10), .ref (ad 11), .ref (ad 12), .int v_items_mustSet, .int v_items_count])), (ad 6, .inl (ki 0, n_iwid, .inl v_iwid)), (ad 7, .inl (ki 0, n_inee, .inl v_inee)), (ad 27, .inr (7, [.ref (ad 2), .ref (ad 5), .ref (ad 13), .ref (ad 28)])), (ad 28, .inl (ki 0, n_rbeg, .inl v_rbeg))] (TYS ki)) (k2_QcV (.int (bI r))) 0 0 (fun _ => False) := by
  refine Met.ofW (cc := b_Row_someNeedIsNotMet) (maxL := 2) (ret := (some .boolean)) (by decide) rfl ?_
  intro p e s m args below meth c s₁ B hml hv
  obtain ⟨rfl, hP, hK, hE⟩ := hv
  have hx := B.exec
  have hb := B.bytes
  have hr := B.returns
  have hts := atoms_spec (ws := w_Row_someNeedIsNotMet) B.pre
  have hown : s.vm.findClass R_Row = some m.cls := findClass_of_methodNamed B.named
  have hlocks := B.notSynchronized
  have hn_Items : ∀ w ∈ u_ws R_Items F_Items 9, w ∈ w_Row_someNeedIsNotMet := (fun w h => List.mem_cons_of_mem _ (i_Items w h))
  have hn_Row : ∀ w ∈ u_ws R_Row F_Row 4, w ∈ w_Row_someNeedIsNotMet := (fun w h => List.mem_cons_of_mem _ (i_Row w h))
  have hL9 := hts (.fieldLink R_Row 9 "RoomFills$Row" "wall" "LRoomFills$Wall;") (List.mem_cons_of_mem _ m_306)
  have hL15 := hts (.fieldLink R_Row 15 "RoomFills$Row" "items" "LRoomFills$Items;") (List.mem_cons_of_mem _ m_307)
  have hL23 := hts (.fieldLink R_Row 23 "RoomFills$Row" "begin" "[I") (List.mem_cons_of_mem _ m_309)
  have hL66 := hts (.fieldLink R_Row 66 "RoomFills$Items" "count" "I") (List.mem_cons_of_mem _ m_142)
  replace hP : va_P D vwCl [(ad 2, .inr (1, [.int v_wall_steps, .ref (ad 3), .ref (ad 4), .int v_wall_pipeCount])), (ad 4, .inl (ki 0, n_wpip, .inl v_wpip)), (ad 5, .inr (2, [.ref (ad 6), .ref (ad 7), .ref (ad 8), .ref (ad 9), .ref (ad 10), .ref (ad 11), .ref (ad 12), .int v_items_mustSet, .int v_items_count])), (ad 6, .inl (ki 0, n_iwid, .inl v_iwid)), (ad 7, .inl (ki 0, n_inee, .inl v_inee)), (ad 27, .inr (7, [.ref (ad 2), .ref (ad 5), .ref (ad 13), .ref (ad 28)])), (ad 28, .inl (ki 0, n_rbeg, .inl v_rbeg))] s.heap := hP
  have hl := lv_entry ([.ref (ad 27)]) (n := 2) (Nat.le_of_ble_eq_true rfl)
  rw [lg_entry_eq]
  generalize (lg_sl ([.ref (ad 27)]) ++ List.replicate (2 - (lg_sl ([.ref (ad 27)])).length) Slot.unset).toArray = ls at hl ⊢
  replace hl : lv_has ls 2 [(0, .ref (ad 27))] := hl
  have key : ∀ n : Nat, (∀ (x1 : Int32), f_Row_someNeedIsNotMet_cut N n_wpip n_iwid n_inee n_rbeg v_wall_steps v_wall_pipeCount v_wpip v_items_mustSet v_items_count v_iwid v_inee v_rbeg n 0 x1 = some r → ∀ (ls : Array Slot), lv_has ls 2 [(0, .ref (ad 27)), (1, .int x1)] → W p l e (headSpec w_Row_someNeedIsNotMet { frames := 2, cells := 0, slots := 0, locals := 47 }).room s m ([.ref (ad 27)] : List Value).toArray below meth c s.heap [] 0 0 (MQ below (k2_QcV (.int (bI r))) ([.ref (ad 27)] : List Value).toArray s 0 0 (fun _ => False)) (F0 m 2 ls [])) := by
    intro n
    induction n with
    | zero =>
      exact fun x1 hf => (nomatch (show none = some _ from hf))
    | succ n ih =>
      intro x1 hf ls hl
      rw [f_Row_someNeedIsNotMet_cut_0] at hf
      refine lv_iload_n hx hb d_Row_someNeedIsNotMet_2 rfl (lv_at hl 1 rfl) ?_
      refine lv_aload_n hx hb d_Row_someNeedIsNotMet_3 rfl (lv_at hl 0 rfl) ?_
      refine va_get (D := D) (ci := 7) (v := .ref (ad 5)) (C := R_Row) (T := F_Row) (N := 4) hx hb hts hn_Row hown hK hP 5 rfl rfl 1 (by decide) hL15 (fun _ h9 => h9) rfl d_Row_someNeedIsNotMet_4 ?_
      refine va_get (D := D) (ci := 2) (v := .int v_items_count) (C := R_Items) (T := F_Items) (N := 9) hx hb hts hn_Items hown hK hP 2 rfl rfl 8 (by decide) hL66 (fun _ h9 => h9) rfl d_Row_someNeedIsNotMet_7 ?_
      refine lv_icmp_ge (tgt := 50) hx hb d_Row_someNeedIsNotMet_10 (by decide) (fun c_1 => ?_) (fun c_1 => ?_)
      · replace hf := q_it hf c_1
        refine lv_iconst (v := 0) hx hb d_Row_someNeedIsNotMet_50 (by decide) ?_
        cases hf
        exact W.zret (v := bI false) hx hb hr (bI_nar _) (fun t ht hW => ⟨rfl, ht⟩) (fun q h => nomatch h) d_Row_someNeedIsNotMet_51
      replace hf := q_ie hf c_1
      refine lv_aload_n hx hb d_Row_someNeedIsNotMet_13 rfl (lv_at hl 0 rfl) ?_
      refine lv_iload_n hx hb d_Row_someNeedIsNotMet_14 rfl (lv_at hl 1 rfl) ?_
      obtain ⟨r_2, hc_2, hf⟩ := q_mb hf
      refine q_pcall (W.runV (As := [.int x1]) (rest := []) ⟨hx, hb, hml, hown, hts⟩ (c_Row_isPut l D ad ki n_rbeg v_rbeg x1 N r_2 hc_2) (cwV 1 hts (q_goodV ⟨m_492, m_494, m_14, m_62⟩ m_495) rfl rfl rfl (by decide +kernel) ⟨Nat.le_of_ble_eq_true rfl, Nat.le_of_ble_eq_true rfl⟩) (q_preVP (wc := [(ad 27, .inr (7, [.ref (ad 2), .ref (ad 5), .ref (ad 13), .ref (ad 28)])), (ad 28, .inl (ki 0, n_rbeg, .inl v_rbeg))]) hE hK hP [5, 6] rfl 5 7 rfl rfl) rfl rfl hl.1 rfl (lv_room (Nat.le_of_ble_eq_true rfl)) d_Row_someNeedIsNotMet_15 ⟨Nat.le_of_ble_eq_true rfl, Nat.le_of_ble_eq_true rfl⟩) ?_
      refine zv_eq (tgt := 44) hx hb d_Row_someNeedIsNotMet_18 (by decide) (fun c_3 => ?_) (fun c_3 => ?_)
      · replace hf := q_ie hf c_3
        refine lv_iinc (v := (x1 + 1)) (lv' := [(1, .int (x1 + 1)), (0, .ref (ad 27))]) hx hb d_Row_someNeedIsNotMet_44 hl (k := 1) rfl rfl (by decide) rfl (fun ls hl => ?_)
        refine lv_goto (tgt := 2) hx hb d_Row_someNeedIsNotMet_47 (by decide) ?_
        exact (ih) (x1 + 1) hf ls (lv_sub hl [1, 0] rfl)
      replace hf := q_it hf c_3
      refine lv_aload_n hx hb d_Row_someNeedIsNotMet_21 rfl (lv_at hl 0 rfl) ?_
      refine va_get (D := D) (ci := 7) (v := .ref (ad 5)) (C := R_Row) (T := F_Row) (N := 4) hx hb hts hn_Row hown hK hP 5 rfl rfl 1 (by decide) hL15 (fun _ h9 => h9) rfl d_Row_someNeedIsNotMet_22 ?_
      refine lv_iload_n hx hb d_Row_someNeedIsNotMet_25 rfl (lv_at hl 1 rfl) ?_
      refine lv_aload_n hx hb d_Row_someNeedIsNotMet_26 rfl (lv_at hl 0 rfl) ?_
      refine va_get (D := D) (ci := 7) (v := .ref (ad 28)) (C := R_Row) (T := F_Row) (N := 4) hx hb hts hn_Row hown hK hP 5 rfl rfl 3 (by decide) hL23 (fun _ h9 => h9) rfl d_Row_someNeedIsNotMet_27 ?_
      refine lv_iload_n hx hb d_Row_someNeedIsNotMet_30 rfl (lv_at hl 1 rfl) ?_
      obtain ⟨hi_4, hf⟩ := q_ck hf
      refine va_iald hx hb hK hP 6 0 rfl rfl hi_4 d_Row_someNeedIsNotMet_31 ?_
      refine lv_aload_n hx hb d_Row_someNeedIsNotMet_32 rfl (lv_at hl 0 rfl) ?_
      refine va_get (D := D) (ci := 7) (v := .ref (ad 2)) (C := R_Row) (T := F_Row) (N := 4) hx hb hts hn_Row hown hK hP 5 rfl rfl 0 (by decide) hL9 (fun _ h9 => h9) rfl d_Row_someNeedIsNotMet_33 ?_
      obtain ⟨r_5, hc_5, hf⟩ := q_mb hf
      refine q_pcall (W.runV (As := [.int x1, .int (v_rbeg (Int32.toNatClampNeg x1)), .ref (ad 2)]) (rest := []) ⟨hx, hb, hml, hown, hts⟩ (c_Items_isNeedMet l D ad ki n_wpip n_iwid n_inee v_wall_steps v_wall_pipeCount v_wpip v_items_mustSet v_items_count v_iwid v_inee x1 (v_rbeg (Int32.toNatClampNeg x1)) N r_5 hc_5) (cwV 3 hts (q_goodV ⟨m_532, m_377, m_378, m_57⟩ m_379) rfl rfl rfl (by decide +kernel) ⟨Nat.le_of_ble_eq_true rfl, Nat.le_of_ble_eq_true rfl⟩) (q_preVP (wc := [(ad 2, .inr (1, [.int v_wall_steps, .ref (ad 3), .ref (ad 4), .int v_wall_pipeCount])), (ad 4, .inl (ki 0, n_wpip, .inl v_wpip)), (ad 5, .inr (2, [.ref (ad 6), .ref (ad 7), .ref (ad 8), .ref (ad 9), .ref (ad 10), .ref (ad 11), .ref (ad 12), .int v_items_mustSet, .int v_items_count])), (ad 6, .inl (ki 0, n_iwid, .inl v_iwid)), (ad 7, .inl (ki 0, n_inee, .inl v_inee))]) hE hK hP [0, 1, 2, 3, 4] rfl 2 2 rfl rfl) rfl rfl hl.1 rfl (lv_room (Nat.le_of_ble_eq_true rfl)) d_Row_someNeedIsNotMet_36 ⟨Nat.le_of_ble_eq_true rfl, Nat.le_of_ble_eq_true rfl⟩) ?_
      refine zv_ne (tgt := 44) hx hb d_Row_someNeedIsNotMet_39 (by decide) (fun c_6 => ?_) (fun c_6 => ?_)
      · replace hf := q_it hf c_6
        refine lv_iinc (v := (x1 + 1)) (lv' := [(1, .int (x1 + 1)), (0, .ref (ad 27))]) hx hb d_Row_someNeedIsNotMet_44 hl (k := 1) rfl rfl (by decide) rfl (fun ls hl => ?_)
        refine lv_goto (tgt := 2) hx hb d_Row_someNeedIsNotMet_47 (by decide) ?_
        exact (ih) (x1 + 1) hf ls (lv_sub hl [1, 0] rfl)
      replace hf := q_ie hf c_6
      refine lv_iconst (v := 1) hx hb d_Row_someNeedIsNotMet_42 (by decide) ?_
      cases hf
      exact W.zret (v := bI true) hx hb hr (bI_nar _) (fun t ht hW => ⟨rfl, ht⟩) (fun q h => nomatch h) d_Row_someNeedIsNotMet_43
  unfold f_Row_someNeedIsNotMet at hf
  refine lv_iconst (v := 0) hx hb d_Row_someNeedIsNotMet_0 (by decide) ?_
  refine lv_istore_n (lv' := [(1, .int 0), (0, .ref (ad 27))]) hx hb d_Row_someNeedIsNotMet_1 rfl hl (by decide) rfl (fun ls hl => ?_)
  exact (key N) 0 hf ls (lv_sub hl [1, 0] rfl)
def f_Row_doShare (N : Nat) (n_iwid : Nat) (n_rbeg : Nat) (v_items_mustSet : Int32) (v_items_count : Int32) (v_iwid : Nat → Int32) (v_rbeg : Nat → Int32) (p1 : Int32) (p2 : Int32) : Option (Bool) := (Option.bind (f_Row_isPut N n_rbeg v_rbeg p1) (fun r_1 => (if r_1 = true then (Option.bind (f_Row_isPut N n_rbeg v_rbeg p2) (fun r_3 => (if r_3 = true then (if p1 < 0 ∨ n_rbeg ≤ Int32.toNatClampNeg p1 then none else (Option.bind (f_Row_endOf N n_iwid n_rbeg v_items_mustSet v_items_count v_iwid v_rbeg p2) (fun r_6 => (if r_6 ≤ (v_rbeg (Int32.toNatClampNeg p1)) then (some false) else (if p2 < 0 ∨ n_rbeg ≤ Int32.toNatClampNeg p2 then none else (Option.bind (f_Row_endOf N n_iwid n_rbeg v_items_mustSet v_items_count v_iwid v_rbeg p1) (fun r_9 => (if r_9 ≤ (v_rbeg (Int32.toNatClampNeg p2)) then (some false) else (some true))))))))) else (some false)))) else (some false))))
set_option maxRecDepth 100000 in
set_option maxHeartbeats 4000000 in
theorem c_Row_doShare (l : Launch) (D : va_G) (ad : Nat → Nat) (ki : Nat → ClassId) (n_iwid : Nat) (n_rbeg : Nat) (v_items_mustSet : Int32) (v_items_count : Int32) (v_iwid : Nat → Int32) (v_rbeg : Nat → Int32) (p1 : Int32) (p2 : Int32) (N : Nat) (r : Bool) (hf : f_Row_doShare N n_iwid n_rbeg v_items_mustSet v_items_count v_iwid v_rbeg p1 p2 = some r) : Met l y_Row_doShare w_Row_doShare { frames := 1, cells := 0, slots := 0, locals := 21 } (q_PcP [.ref (ad 27), .int p1, .int p2] D vwCl [(ad 5, .inr (2, [.ref (ad 6), .ref (ad 7), .ref (ad 8), .ref (ad 9), .ref (ad 10), .ref (ad 11), .ref (ad 12), .int v_items_mustSet, .int v_items_count])), (ad 6, .inl (ki 0, n_iwid, .inl v_iwid)), (ad 27, .inr (7, [.ref (ad 2), .ref (ad 5), .ref (ad 13), .ref (ad 28)])), (ad 28, .inl (ki 0, n_rbeg, .inl v_rbeg))] (TYS ki)) (k2_QcV (.int (bI r))) 0 0 (fun _ => False) := by
  refine Met.ofW (cc := b_Row_doShare) (maxL := 3) (ret := (some .boolean)) (by decide) rfl ?_
  intro p e s m args below meth c s₁ B hml hv
  obtain ⟨rfl, hP, hK, hE⟩ := hv
  have hx := B.exec
  have hb := B.bytes
  have hr := B.returns
  have hts := atoms_spec (ws := w_Row_doShare) B.pre
  have hown : s.vm.findClass R_Row = some m.cls := findClass_of_methodNamed B.named
  have hlocks := B.notSynchronized
  have hn_Row : ∀ w ∈ u_ws R_Row F_Row 4, w ∈ w_Row_doShare := (fun w h => List.mem_cons_of_mem _ (i_Row w h))
  have hL23 := hts (.fieldLink R_Row 23 "RoomFills$Row" "begin" "[I") (List.mem_cons_of_mem _ m_309)
  replace hP : va_P D vwCl [(ad 5, .inr (2, [.ref (ad 6), .ref (ad 7), .ref (ad 8), .ref (ad 9), .ref (ad 10), .ref (ad 11), .ref (ad 12), .int v_items_mustSet, .int v_items_count])), (ad 6, .inl (ki 0, n_iwid, .inl v_iwid)), (ad 27, .inr (7, [.ref (ad 2), .ref (ad 5), .ref (ad 13), .ref (ad 28)])), (ad 28, .inl (ki 0, n_rbeg, .inl v_rbeg))] s.heap := hP
  have hl := lv_entry ([.ref (ad 27), .int p1, .int p2]) (n := 3) (Nat.le_of_ble_eq_true rfl)
  rw [lg_entry_eq]
  generalize (lg_sl ([.ref (ad 27), .int p1, .int p2]) ++ List.replicate (3 - (lg_sl ([.ref (ad 27), .int p1, .int p2])).length) Slot.unset).toArray = ls at hl ⊢
  replace hl : lv_has ls 3 [(0, .ref (ad 27)), (1, .int p1), (2, .int p2)] := hl
  unfold f_Row_doShare at hf
  refine lv_aload_n hx hb d_Row_doShare_0 rfl (lv_at hl 0 rfl) ?_
  refine lv_iload_n hx hb d_Row_doShare_1 rfl (lv_at hl 1 rfl) ?_
  obtain ⟨r_1, hc_1, hf⟩ := q_mb hf
  refine q_pcall (W.runV (As := [.int p1]) (rest := []) ⟨hx, hb, hml, hown, hts⟩ (c_Row_isPut l D ad ki n_rbeg v_rbeg p1 N r_1 hc_1) (cwV 1 hts (q_goodV ⟨m_492, m_494, m_14, m_62⟩ m_495) rfl rfl rfl (by decide +kernel) ⟨Nat.le_of_ble_eq_true rfl, Nat.le_of_ble_eq_true rfl⟩) (q_preVP (wc := [(ad 27, .inr (7, [.ref (ad 2), .ref (ad 5), .ref (ad 13), .ref (ad 28)])), (ad 28, .inl (ki 0, n_rbeg, .inl v_rbeg))]) hE hK hP [2, 3] rfl 2 7 rfl rfl) rfl rfl hl.1 rfl (lv_room (Nat.le_of_ble_eq_true rfl)) d_Row_doShare_2 ⟨Nat.le_of_ble_eq_true rfl, Nat.le_of_ble_eq_true rfl⟩) ?_
  refine zv_eq (tgt := 48) hx hb d_Row_doShare_5 (by decide) (fun c_2 => ?_) (fun c_2 => ?_)
  · replace hf := q_ie hf c_2
    refine lv_iconst (v := 0) hx hb d_Row_doShare_48 (by decide) ?_
    cases hf
    exact W.zret (v := bI false) hx hb hr (bI_nar _) (fun t ht hW => ⟨rfl, ht⟩) (fun q h => nomatch h) d_Row_doShare_49
  replace hf := q_it hf c_2
  refine lv_aload_n hx hb d_Row_doShare_8 rfl (lv_at hl 0 rfl) ?_
  refine lv_iload_n hx hb d_Row_doShare_9 rfl (lv_at hl 2 rfl) ?_
  obtain ⟨r_3, hc_3, hf⟩ := q_mb hf
  refine q_pcall (W.runV (As := [.int p2]) (rest := []) ⟨hx, hb, hml, hown, hts⟩ (c_Row_isPut l D ad ki n_rbeg v_rbeg p2 N r_3 hc_3) (cwV 1 hts (q_goodV ⟨m_492, m_494, m_14, m_62⟩ m_495) rfl rfl rfl (by decide +kernel) ⟨Nat.le_of_ble_eq_true rfl, Nat.le_of_ble_eq_true rfl⟩) (q_preVP (wc := [(ad 27, .inr (7, [.ref (ad 2), .ref (ad 5), .ref (ad 13), .ref (ad 28)])), (ad 28, .inl (ki 0, n_rbeg, .inl v_rbeg))]) hE hK hP [2, 3] rfl 2 7 rfl rfl) rfl rfl hl.1 rfl (lv_room (Nat.le_of_ble_eq_true rfl)) d_Row_doShare_10 ⟨Nat.le_of_ble_eq_true rfl, Nat.le_of_ble_eq_true rfl⟩) ?_
  refine zv_eq (tgt := 48) hx hb d_Row_doShare_13 (by decide) (fun c_4 => ?_) (fun c_4 => ?_)
  · replace hf := q_ie hf c_4
    refine lv_iconst (v := 0) hx hb d_Row_doShare_48 (by decide) ?_
    cases hf
    exact W.zret (v := bI false) hx hb hr (bI_nar _) (fun t ht hW => ⟨rfl, ht⟩) (fun q h => nomatch h) d_Row_doShare_49
  replace hf := q_it hf c_4
  refine lv_aload_n hx hb d_Row_doShare_16 rfl (lv_at hl 0 rfl) ?_
  refine va_get (D := D) (ci := 7) (v := .ref (ad 28)) (C := R_Row) (T := F_Row) (N := 4) hx hb hts hn_Row hown hK hP 2 rfl rfl 3 (by decide) hL23 (fun _ h9 => h9) rfl d_Row_doShare_17 ?_
  refine lv_iload_n hx hb d_Row_doShare_20 rfl (lv_at hl 1 rfl) ?_
  obtain ⟨hi_5, hf⟩ := q_ck hf
  refine va_iald hx hb hK hP 3 0 rfl rfl hi_5 d_Row_doShare_21 ?_
  refine lv_aload_n hx hb d_Row_doShare_22 rfl (lv_at hl 0 rfl) ?_
  refine lv_iload_n hx hb d_Row_doShare_23 rfl (lv_at hl 2 rfl) ?_
  obtain ⟨r_6, hc_6, hf⟩ := q_mb hf
  refine q_pcall (W.runV (As := [.int p2]) (rest := [.int (v_rbeg (Int32.toNatClampNeg p1))]) ⟨hx, hb, hml, hown, hts⟩ (c_Row_endOf l D ad ki n_iwid n_rbeg v_items_mustSet v_items_count v_iwid v_rbeg p2 N r_6 hc_6) (cwV 1 hts (q_goodV ⟨m_508, m_510, m_17, m_62⟩ m_511) rfl rfl rfl (by decide +kernel) ⟨Nat.le_of_ble_eq_true rfl, Nat.le_of_ble_eq_true rfl⟩) (q_preVP (wc := [(ad 5, .inr (2, [.ref (ad 6), .ref (ad 7), .ref (ad 8), .ref (ad 9), .ref (ad 10), .ref (ad 11), .ref (ad 12), .int v_items_mustSet, .int v_items_count])), (ad 6, .inl (ki 0, n_iwid, .inl v_iwid)), (ad 27, .inr (7, [.ref (ad 2), .ref (ad 5), .ref (ad 13), .ref (ad 28)])), (ad 28, .inl (ki 0, n_rbeg, .inl v_rbeg))]) hE hK hP [0, 1, 2, 3] rfl 2 7 rfl rfl) rfl rfl hl.1 rfl (lv_room (Nat.le_of_ble_eq_true rfl)) d_Row_doShare_24 ⟨Nat.le_of_ble_eq_true rfl, Nat.le_of_ble_eq_true rfl⟩) ?_
  refine lv_icmp_ge (tgt := 48) hx hb d_Row_doShare_27 (by decide) (fun c_7 => ?_) (fun c_7 => ?_)
  · replace hf := q_it hf c_7
    refine lv_iconst (v := 0) hx hb d_Row_doShare_48 (by decide) ?_
    cases hf
    exact W.zret (v := bI false) hx hb hr (bI_nar _) (fun t ht hW => ⟨rfl, ht⟩) (fun q h => nomatch h) d_Row_doShare_49
  replace hf := q_ie hf c_7
  refine lv_aload_n hx hb d_Row_doShare_30 rfl (lv_at hl 0 rfl) ?_
  refine va_get (D := D) (ci := 7) (v := .ref (ad 28)) (C := R_Row) (T := F_Row) (N := 4) hx hb hts hn_Row hown hK hP 2 rfl rfl 3 (by decide) hL23 (fun _ h9 => h9) rfl d_Row_doShare_31 ?_
  refine lv_iload_n hx hb d_Row_doShare_34 rfl (lv_at hl 2 rfl) ?_
  obtain ⟨hi_8, hf⟩ := q_ck hf
  refine va_iald hx hb hK hP 3 0 rfl rfl hi_8 d_Row_doShare_35 ?_
  refine lv_aload_n hx hb d_Row_doShare_36 rfl (lv_at hl 0 rfl) ?_
  refine lv_iload_n hx hb d_Row_doShare_37 rfl (lv_at hl 1 rfl) ?_
  obtain ⟨r_9, hc_9, hf⟩ := q_mb hf
  refine q_pcall (W.runV (As := [.int p1]) (rest := [.int (v_rbeg (Int32.toNatClampNeg p2))]) ⟨hx, hb, hml, hown, hts⟩ (c_Row_endOf l D ad ki n_iwid n_rbeg v_items_mustSet v_items_count v_iwid v_rbeg p1 N r_9 hc_9) (cwV 1 hts (q_goodV ⟨m_508, m_510, m_17, m_62⟩ m_511) rfl rfl rfl (by decide +kernel) ⟨Nat.le_of_ble_eq_true rfl, Nat.le_of_ble_eq_true rfl⟩) (q_preVP (wc := [(ad 5, .inr (2, [.ref (ad 6), .ref (ad 7), .ref (ad 8), .ref (ad 9), .ref (ad 10), .ref (ad 11), .ref (ad 12), .int v_items_mustSet, .int v_items_count])), (ad 6, .inl (ki 0, n_iwid, .inl v_iwid)), (ad 27, .inr (7, [.ref (ad 2), .ref (ad 5), .ref (ad 13), .ref (ad 28)])), (ad 28, .inl (ki 0, n_rbeg, .inl v_rbeg))]) hE hK hP [0, 1, 2, 3] rfl 2 7 rfl rfl) rfl rfl hl.1 rfl (lv_room (Nat.le_of_ble_eq_true rfl)) d_Row_doShare_38 ⟨Nat.le_of_ble_eq_true rfl, Nat.le_of_ble_eq_true rfl⟩) ?_
  refine lv_icmp_ge (tgt := 48) hx hb d_Row_doShare_41 (by decide) (fun c_10 => ?_) (fun c_10 => ?_)
  · replace hf := q_it hf c_10
    refine lv_iconst (v := 0) hx hb d_Row_doShare_48 (by decide) ?_
    cases hf
    exact W.zret (v := bI false) hx hb hr (bI_nar _) (fun t ht hW => ⟨rfl, ht⟩) (fun q h => nomatch h) d_Row_doShare_49
  replace hf := q_ie hf c_10
  refine lv_iconst (v := 1) hx hb d_Row_doShare_44 (by decide) ?_
  refine lv_goto (tgt := 49) hx hb d_Row_doShare_45 (by decide) ?_
  cases hf
  exact W.zret (v := bI true) hx hb hr (bI_nar _) (fun t ht hW => ⟨rfl, ht⟩) (fun q h => nomatch h) d_Row_doShare_49
def f_Row_someShareAStep_cut (N : Nat) (n_iwid : Nat) (n_rbeg : Nat) (v_items_mustSet : Int32) (v_items_count : Int32) (v_iwid : Nat → Int32) (v_rbeg : Nat → Int32) : Nat → Nat → Int32 → Int32 → Option (Bool)
  | 0, _, _, _ => none
  | n + 1, t, x1, x2 => if t = 0 then (if v_items_count ≤ x1 then (some false) else (f_Row_someShareAStep_cut N n_iwid n_rbeg v_items_mustSet v_items_count v_iwid v_rbeg n 1 x1 (x1 + 1))) else (if v_items_count ≤ x2 then (f_Row_someShareAStep_cut N n_iwid n_rbeg v_items_mustSet v_items_count v_iwid v_rbeg n 0 (x1 + 1) 0) else (Option.bind (f_Row_doShare N n_iwid n_rbeg v_items_mustSet v_items_count v_iwid v_rbeg x1 x2) (fun r_3 => (if r_3 = true then (some true) else (f_Row_someShareAStep_cut N n_iwid n_rbeg v_items_mustSet v_items_count v_iwid v_rbeg n 1 x1 (x2 + 1))))))
theorem f_Row_someShareAStep_cut_0 (N : Nat) (n_iwid : Nat) (n_rbeg : Nat) (v_items_mustSet : Int32) (v_items_count : Int32) (v_iwid : Nat → Int32) (v_rbeg : Nat → Int32) (n : Nat) (x1 : Int32) (x2 : Int32) : f_Row_someShareAStep_cut N n_iwid n_rbeg v_items_mustSet v_items_count v_iwid v_rbeg (n + 1) 0 x1 x2 = (if v_items_count ≤ x1 then (some false) else (f_Row_someShareAStep_cut N n_iwid n_rbeg v_items_mustSet v_items_count v_iwid v_rbeg n 1 x1 (x1 + 1))) := rfl
theorem f_Row_someShareAStep_cut_1 (N : Nat) (n_iwid : Nat) (n_rbeg : Nat) (v_items_mustSet : Int32) (v_items_count : Int32) (v_iwid : Nat → Int32) (v_rbeg : Nat → Int32) (n : Nat) (x1 : Int32) (x2 : Int32) : f_Row_someShareAStep_cut N n_iwid n_rbeg v_items_mustSet v_items_count v_iwid v_rbeg (n + 1) 1 x1 x2 = (if v_items_count ≤ x2 then (f_Row_someShareAStep_cut N n_iwid n_rbeg v_items_mustSet v_items_count v_iwid v_rbeg n 0 (x1 + 1) 0) else (Option.bind (f_Row_doShare N n_iwid n_rbeg v_items_mustSet v_items_count v_iwid v_rbeg x1 x2) (fun r_3 => (if r_3 = true then (some true) else (f_Row_someShareAStep_cut N n_iwid n_rbeg v_items_mustSet v_items_count v_iwid v_rbeg n 1 x1 (x2 + 1)))))) := rfl
def f_Row_someShareAStep (N : Nat) (n_iwid : Nat) (n_rbeg : Nat) (v_items_mustSet : Int32) (v_items_count : Int32) (v_iwid : Nat → Int32) (v_rbeg : Nat → Int32)  : Option (Bool) := (f_Row_someShareAStep_cut N n_iwid n_rbeg v_items_mustSet v_items_count v_iwid v_rbeg N 0 0 0)
set_option maxRecDepth 100000 in
set_option maxHeartbeats 4000000 in
theorem c_Row_someShareAStep (l : Launch) (D : va_G) (ad : Nat → Nat) (ki : Nat → ClassId) (n_iwid : Nat) (n_rbeg : Nat) (v_items_mustSet : Int32) (v_items_count : Int32) (v_iwid : Nat → Int32) (v_rbeg : Nat → Int32)  (N : Nat) (r : Bool) (hf : f_Row_someShareAStep N n_iwid n_rbeg v_items_mustSet v_items_count v_iwid v_rbeg = some r) : Met l y_Row_someShareAStep w_Row_someShareAStep { frames := 2, cells := 0, slots := 0, locals := 43 } (q_PcP [.ref (ad 27)] D vwCl [(ad 5, .inr (2, [.ref (ad 6), .ref (ad 7), .ref (ad 8), .ref (ad 9), .ref (ad 10), .ref (ad 11), .ref (ad 12), .int v_items_mustSet, .int v_items_count])), (ad 6, .inl (ki 0, n_iwid, .inl v_iwid)), (ad 27, .inr (7, [.ref (ad 2), .ref (ad 5), .ref (ad 13), .ref (ad 28)])), (ad 28, .inl (ki 0, n_rbeg, .inl v_rbeg))] (TYS ki)) (k2_QcV (.int (bI r))) 0 0 (fun _ => False) := by
  refine Met.ofW (cc := b_Row_someShareAStep) (maxL := 3) (ret := (some .boolean)) (by decide) rfl ?_
  intro p e s m args below meth c s₁ B hml hv
  obtain ⟨rfl, hP, hK, hE⟩ := hv
  have hx := B.exec
  have hb := B.bytes
  have hr := B.returns
  have hts := atoms_spec (ws := w_Row_someShareAStep) B.pre
  have hown : s.vm.findClass R_Row = some m.cls := findClass_of_methodNamed B.named
  have hlocks := B.notSynchronized
  have hn_Items : ∀ w ∈ u_ws R_Items F_Items 9, w ∈ w_Row_someShareAStep := (fun w h => List.mem_cons_of_mem _ (i_Items w h))
  have hn_Row : ∀ w ∈ u_ws R_Row F_Row 4, w ∈ w_Row_someShareAStep := (fun w h => List.mem_cons_of_mem _ (i_Row w h))
  have hL15 := hts (.fieldLink R_Row 15 "RoomFills$Row" "items" "LRoomFills$Items;") (List.mem_cons_of_mem _ m_307)
  have hL66 := hts (.fieldLink R_Row 66 "RoomFills$Items" "count" "I") (List.mem_cons_of_mem _ m_142)
  replace hP : va_P D vwCl [(ad 5, .inr (2, [.ref (ad 6), .ref (ad 7), .ref (ad 8), .ref (ad 9), .ref (ad 10), .ref (ad 11), .ref (ad 12), .int v_items_mustSet, .int v_items_count])), (ad 6, .inl (ki 0, n_iwid, .inl v_iwid)), (ad 27, .inr (7, [.ref (ad 2), .ref (ad 5), .ref (ad 13), .ref (ad 28)])), (ad 28, .inl (ki 0, n_rbeg, .inl v_rbeg))] s.heap := hP
  have hl := lv_entry ([.ref (ad 27)]) (n := 3) (Nat.le_of_ble_eq_true rfl)
  rw [lg_entry_eq]
  generalize (lg_sl ([.ref (ad 27)]) ++ List.replicate (3 - (lg_sl ([.ref (ad 27)])).length) Slot.unset).toArray = ls at hl ⊢
  replace hl : lv_has ls 3 [(0, .ref (ad 27))] := hl
  have key : ∀ n : Nat, (∀ (x1 : Int32), f_Row_someShareAStep_cut N n_iwid n_rbeg v_items_mustSet v_items_count v_iwid v_rbeg n 0 x1 0 = some r → ∀ (ls : Array Slot), lv_has ls 3 [(0, .ref (ad 27)), (1, .int x1)] → W p l e (headSpec w_Row_someShareAStep { frames := 2, cells := 0, slots := 0, locals := 43 }).room s m ([.ref (ad 27)] : List Value).toArray below meth c s.heap [] 0 0 (MQ below (k2_QcV (.int (bI r))) ([.ref (ad 27)] : List Value).toArray s 0 0 (fun _ => False)) (F0 m 2 ls [])) ∧ (∀ (x1 : Int32) (x2 : Int32), f_Row_someShareAStep_cut N n_iwid n_rbeg v_items_mustSet v_items_count v_iwid v_rbeg n 1 x1 x2 = some r → ∀ (ls : Array Slot), lv_has ls 3 [(0, .ref (ad 27)), (1, .int x1), (2, .int x2)] → W p l e (headSpec w_Row_someShareAStep { frames := 2, cells := 0, slots := 0, locals := 43 }).room s m ([.ref (ad 27)] : List Value).toArray below meth c s.heap [] 0 0 (MQ below (k2_QcV (.int (bI r))) ([.ref (ad 27)] : List Value).toArray s 0 0 (fun _ => False)) (F0 m 17 ls [])) := by
    intro n
    induction n with
    | zero =>
      exact ⟨fun x1 hf => (nomatch (show none = some _ from hf)), fun x1 x2 hf => (nomatch (show none = some _ from hf))⟩
    | succ n ih =>
      refine ⟨?_, ?_⟩
      · intro x1 hf ls hl
        rw [f_Row_someShareAStep_cut_0] at hf
        refine lv_iload_n hx hb d_Row_someShareAStep_2 rfl (lv_at hl 1 rfl) ?_
        refine lv_aload_n hx hb d_Row_someShareAStep_3 rfl (lv_at hl 0 rfl) ?_
        refine va_get (D := D) (ci := 7) (v := .ref (ad 5)) (C := R_Row) (T := F_Row) (N := 4) hx hb hts hn_Row hown hK hP 2 rfl rfl 1 (by decide) hL15 (fun _ h9 => h9) rfl d_Row_someShareAStep_4 ?_
        refine va_get (D := D) (ci := 2) (v := .int v_items_count) (C := R_Items) (T := F_Items) (N := 9) hx hb hts hn_Items hown hK hP 0 rfl rfl 8 (by decide) hL66 (fun _ h9 => h9) rfl d_Row_someShareAStep_7 ?_
        refine lv_icmp_ge (tgt := 51) hx hb d_Row_someShareAStep_10 (by decide) (fun c_1 => ?_) (fun c_1 => ?_)
        · replace hf := q_it hf c_1
          refine lv_iconst (v := 0) hx hb d_Row_someShareAStep_51 (by decide) ?_
          cases hf
          exact W.zret (v := bI false) hx hb hr (bI_nar _) (fun t ht hW => ⟨rfl, ht⟩) (fun q h => nomatch h) d_Row_someShareAStep_52
        replace hf := q_ie hf c_1
        refine lv_iload_n hx hb d_Row_someShareAStep_13 rfl (lv_at hl 1 rfl) ?_
        refine lv_iconst (v := 1) hx hb d_Row_someShareAStep_14 (by decide) ?_
        refine lv_iadd hx hb d_Row_someShareAStep_15 ?_
        refine lv_istore_n (lv' := [(2, .int (x1 + 1)), (0, .ref (ad 27)), (1, .int x1)]) hx hb d_Row_someShareAStep_16 rfl hl (by decide) rfl (fun ls hl => ?_)
        exact (ih).2 x1 (x1 + 1) hf ls (lv_sub hl [1, 2, 0] rfl)
      · intro x1 x2 hf ls hl
        rw [f_Row_someShareAStep_cut_1] at hf
        refine lv_iload_n hx hb d_Row_someShareAStep_17 rfl (lv_at hl 2 rfl) ?_
        refine lv_aload_n hx hb d_Row_someShareAStep_18 rfl (lv_at hl 0 rfl) ?_
        refine va_get (D := D) (ci := 7) (v := .ref (ad 5)) (C := R_Row) (T := F_Row) (N := 4) hx hb hts hn_Row hown hK hP 2 rfl rfl 1 (by decide) hL15 (fun _ h9 => h9) rfl d_Row_someShareAStep_19 ?_
        refine va_get (D := D) (ci := 2) (v := .int v_items_count) (C := R_Items) (T := F_Items) (N := 9) hx hb hts hn_Items hown hK hP 0 rfl rfl 8 (by decide) hL66 (fun _ h9 => h9) rfl d_Row_someShareAStep_22 ?_
        refine lv_icmp_ge (tgt := 45) hx hb d_Row_someShareAStep_25 (by decide) (fun c_2 => ?_) (fun c_2 => ?_)
        · replace hf := q_it hf c_2
          refine lv_iinc (v := (x1 + 1)) (lv' := [(1, .int (x1 + 1)), (0, .ref (ad 27)), (2, .int x2)]) hx hb d_Row_someShareAStep_45 hl (k := 1) rfl rfl (by decide) rfl (fun ls hl => ?_)
          refine lv_goto (tgt := 2) hx hb d_Row_someShareAStep_48 (by decide) ?_
          exact (ih).1 (x1 + 1) hf ls (lv_sub hl [1, 0] rfl)
        replace hf := q_ie hf c_2
        refine lv_aload_n hx hb d_Row_someShareAStep_28 rfl (lv_at hl 0 rfl) ?_
        refine lv_iload_n hx hb d_Row_someShareAStep_29 rfl (lv_at hl 1 rfl) ?_
        refine lv_iload_n hx hb d_Row_someShareAStep_30 rfl (lv_at hl 2 rfl) ?_
        obtain ⟨r_3, hc_3, hf⟩ := q_mb hf
        refine q_pcall (W.runV (As := [.int x1, .int x2]) (rest := []) ⟨hx, hb, hml, hown, hts⟩ (c_Row_doShare l D ad ki n_iwid n_rbeg v_items_mustSet v_items_count v_iwid v_rbeg x1 x2 N r_3 hc_3) (cwV 2 hts (q_goodV ⟨m_504, m_506, m_16, m_62⟩ m_507) rfl rfl rfl (by decide +kernel) ⟨Nat.le_of_ble_eq_true rfl, Nat.le_of_ble_eq_true rfl⟩) (q_preVP (wc := [(ad 5, .inr (2, [.ref (ad 6), .ref (ad 7), .ref (ad 8), .ref (ad 9), .ref (ad 10), .ref (ad 11), .ref (ad 12), .int v_items_mustSet, .int v_items_count])), (ad 6, .inl (ki 0, n_iwid, .inl v_iwid)), (ad 27, .inr (7, [.ref (ad 2), .ref (ad 5), .ref (ad 13), .ref (ad 28)])), (ad 28, .inl (ki 0, n_rbeg, .inl v_rbeg))]) hE hK hP [0, 1, 2, 3] rfl 2 7 rfl rfl) rfl rfl hl.1 rfl (lv_room (Nat.le_of_ble_eq_true rfl)) d_Row_someShareAStep_31 ⟨Nat.le_of_ble_eq_true rfl, Nat.le_of_ble_eq_true rfl⟩) ?_
        refine zv_eq (tgt := 39) hx hb d_Row_someShareAStep_34 (by decide) (fun c_4 => ?_) (fun c_4 => ?_)
        · replace hf := q_ie hf c_4
          refine lv_iinc (v := (x2 + 1)) (lv' := [(2, .int (x2 + 1)), (0, .ref (ad 27)), (1, .int x1)]) hx hb d_Row_someShareAStep_39 hl (k := 2) rfl rfl (by decide) rfl (fun ls hl => ?_)
          refine lv_goto (tgt := 17) hx hb d_Row_someShareAStep_42 (by decide) ?_
          exact (ih).2 x1 (x2 + 1) hf ls (lv_sub hl [1, 2, 0] rfl)
        replace hf := q_it hf c_4
        refine lv_iconst (v := 1) hx hb d_Row_someShareAStep_37 (by decide) ?_
        cases hf
        exact W.zret (v := bI true) hx hb hr (bI_nar _) (fun t ht hW => ⟨rfl, ht⟩) (fun q h => nomatch h) d_Row_someShareAStep_38
  unfold f_Row_someShareAStep at hf
  refine lv_iconst (v := 0) hx hb d_Row_someShareAStep_0 (by decide) ?_
  refine lv_istore_n (lv' := [(1, .int 0), (0, .ref (ad 27))]) hx hb d_Row_someShareAStep_1 rfl hl (by decide) rfl (fun ls hl => ?_)
  exact (key N).1 0 hf ls (lv_sub hl [1, 0] rfl)
def f_Row_firstBrokenRule (N : Nat) (n_wfree : Nat) (n_wpip : Nat) (n_iwid : Nat) (n_inee : Nat) (n_ibar : Nat) (n_rbeg : Nat) (v_wall_steps : Int32) (v_wall_pipeCount : Int32) (v_wfree : Nat → Int32) (v_wpip : Nat → Int32) (v_items_mustSet : Int32) (v_items_count : Int32) (v_iwid : Nat → Int32) (v_inee : Nat → Int32) (v_ibar : Nat → Int32) (v_fill_least : Int32) (v_fill_most : Int32) (v_rbeg : Nat → Int32)  : Option (Int32) := (Option.bind (f_Row_someIsOffTheWall N n_iwid n_rbeg v_wall_steps v_wall_pipeCount v_items_mustSet v_items_count v_iwid v_rbeg) (fun r_1 => (if r_1 = true then (some 1) else (Option.bind (f_Row_someShareAStep N n_iwid n_rbeg v_items_mustSet v_items_count v_iwid v_rbeg) (fun r_3 => (if r_3 = true then (some 2) else (Option.bind (f_Row_someIsOnAFreeStep N n_wfree n_iwid n_rbeg v_wall_steps v_wall_pipeCount v_wfree v_items_mustSet v_items_count v_iwid v_rbeg) (fun r_5 => (if r_5 = true then (some 3) else (Option.bind (f_Row_putSet N n_rbeg v_items_mustSet v_items_count v_rbeg) (fun r_7 => (if (v_items_mustSet &&& (r_7 ^^^ (-1))) = 0 then (Option.bind (f_Row_someNeedIsNotMet N n_wpip n_iwid n_inee n_rbeg v_wall_steps v_wall_pipeCount v_wpip v_items_mustSet v_items_count v_iwid v_inee v_rbeg) (fun r_9 => (if r_9 = true then (some 5) else (Option.bind (f_Row_someBarredTouch N n_iwid n_ibar n_rbeg v_items_mustSet v_items_count v_iwid v_ibar v_rbeg) (fun r_11 => (if r_11 = true then (some 6) else (Option.bind (f_Row_someGapIsNoFiller N n_wfree n_iwid n_rbeg v_wall_steps v_wall_pipeCount v_wfree v_items_mustSet v_items_count v_iwid v_fill_least v_fill_most v_rbeg) (fun r_13 => (if r_13 = true then (some 7) else (some 0)))))))))) else (some 4)))))))))))))
set_option maxRecDepth 100000 in
set_option maxHeartbeats 4000000 in
theorem c_Row_firstBrokenRule (l : Launch) (D : va_G) (ad : Nat → Nat) (ki : Nat → ClassId) (n_wfree : Nat) (n_wpip : Nat) (n_iwid : Nat) (n_inee : Nat) (n_ibar : Nat) (n_rbeg : Nat) (v_wall_steps : Int32) (v_wall_pipeCount : Int32) (v_wfree : Nat → Int32) (v_wpip : Nat → Int32) (v_items_mustSet : Int32) (v_items_count : Int32) (v_iwid : Nat → Int32) (v_inee : Nat → Int32) (v_ibar : Nat → Int32) (v_fill_least : Int32) (v_fill_most : Int32) (v_rbeg : Nat → Int32)  (N : Nat) (r : Int32) (hf : f_Row_firstBrokenRule N n_wfree n_wpip n_iwid n_inee n_ibar n_rbeg v_wall_steps v_wall_pipeCount v_wfree v_wpip v_items_mustSet v_items_count v_iwid v_inee v_ibar v_fill_least v_fill_most v_rbeg = some r) : Met l y_Row_firstBrokenRule w_Row_firstBrokenRule { frames := 4, cells := 0, slots := 0, locals := 87 } (q_PcP [.ref (ad 27)] D vwCl [(ad 2, .inr (1, [.int v_wall_steps, .ref (ad 3), .ref (ad 4), .int v_wall_pipeCount])), (ad 3, .inl (ki 2, n_wfree, .inl v_wfree)), (ad 4, .inl (ki 0, n_wpip, .inl v_wpip)), (ad 5, .inr (2, [.ref (ad 6), .ref (ad 7), .ref (ad 8), .ref (ad 9), .ref (ad 10), .ref (ad 11), .ref (ad 12), .int v_items_mustSet, .int v_items_count])), (ad 6, .inl (ki 0, n_iwid, .inl v_iwid)), (ad 7, .inl (ki 0, n_inee, .inl v_inee)), (ad 8, .inl (ki 0, n_ibar, .inl v_ibar)), (ad 13, .inr (3, [.int v_fill_least, .int v_fill_most])), (ad 27, .inr (7, [.ref (ad 2), .ref (ad 5), .ref (ad 13), .ref (ad 28)])), (ad 28, .inl (ki 0, n_rbeg, .inl v_rbeg))] (TYS ki)) (k2_QcV (.int r)) 0 0 (fun _ => False) := by
  refine Met.ofW (cc := b_Row_firstBrokenRule) (maxL := 1) (ret := (some .int)) (by decide) rfl ?_
  intro p e s m args below meth c s₁ B hml hv
  obtain ⟨rfl, hP, hK, hE⟩ := hv
  have hx := B.exec
  have hb := B.bytes
  have hr := B.returns
  have hts := atoms_spec (ws := w_Row_firstBrokenRule) B.pre
  have hown : s.vm.findClass R_Row = some m.cls := findClass_of_methodNamed B.named
  have hlocks := B.notSynchronized
  have hn_Items : ∀ w ∈ u_ws R_Items F_Items 9, w ∈ w_Row_firstBrokenRule := (fun w h => List.mem_cons_of_mem _ (i_Items w h))
  have hn_Row : ∀ w ∈ u_ws R_Row F_Row 4, w ∈ w_Row_firstBrokenRule := (fun w h => List.mem_cons_of_mem _ (i_Row w h))
  have hL15 := hts (.fieldLink R_Row 15 "RoomFills$Row" "items" "LRoomFills$Items;") (List.mem_cons_of_mem _ m_307)
  have hL43 := hts (.fieldLink R_Row 43 "RoomFills$Items" "mustSet" "I") (List.mem_cons_of_mem _ m_137)
  replace hP : va_P D vwCl [(ad 2, .inr (1, [.int v_wall_steps, .ref (ad 3), .ref (ad 4), .int v_wall_pipeCount])), (ad 3, .inl (ki 2, n_wfree, .inl v_wfree)), (ad 4, .inl (ki 0, n_wpip, .inl v_wpip)), (ad 5, .inr (2, [.ref (ad 6), .ref (ad 7), .ref (ad 8), .ref (ad 9), .ref (ad 10), .ref (ad 11), .ref (ad 12), .int v_items_mustSet, .int v_items_count])), (ad 6, .inl (ki 0, n_iwid, .inl v_iwid)), (ad 7, .inl (ki 0, n_inee, .inl v_inee)), (ad 8, .inl (ki 0, n_ibar, .inl v_ibar)), (ad 13, .inr (3, [.int v_fill_least, .int v_fill_most])), (ad 27, .inr (7, [.ref (ad 2), .ref (ad 5), .ref (ad 13), .ref (ad 28)])), (ad 28, .inl (ki 0, n_rbeg, .inl v_rbeg))] s.heap := hP
  have hl := lv_entry ([.ref (ad 27)]) (n := 1) (Nat.le_of_ble_eq_true rfl)
  rw [lg_entry_eq]
  generalize (lg_sl ([.ref (ad 27)]) ++ List.replicate (1 - (lg_sl ([.ref (ad 27)])).length) Slot.unset).toArray = ls at hl ⊢
  replace hl : lv_has ls 1 [(0, .ref (ad 27))] := hl
  unfold f_Row_firstBrokenRule at hf
  refine lv_aload_n hx hb d_Row_firstBrokenRule_0 rfl (lv_at hl 0 rfl) ?_
  obtain ⟨r_1, hc_1, hf⟩ := q_mb hf
  refine q_pcall (W.runV (As := []) (rest := []) ⟨hx, hb, hml, hown, hts⟩ (c_Row_someIsOffTheWall l D ad ki n_iwid n_rbeg v_wall_steps v_wall_pipeCount v_items_mustSet v_items_count v_iwid v_rbeg N r_1 hc_1) (cwV 0 hts (q_goodV ⟨m_488, m_490, m_13, m_62⟩ m_491) rfl rfl rfl (by decide +kernel) ⟨Nat.le_of_ble_eq_true rfl, Nat.le_of_ble_eq_true rfl⟩) (q_preVP (wc := [(ad 2, .inr (1, [.int v_wall_steps, .ref (ad 3), .ref (ad 4), .int v_wall_pipeCount])), (ad 5, .inr (2, [.ref (ad 6), .ref (ad 7), .ref (ad 8), .ref (ad 9), .ref (ad 10), .ref (ad 11), .ref (ad 12), .int v_items_mustSet, .int v_items_count])), (ad 6, .inl (ki 0, n_iwid, .inl v_iwid)), (ad 27, .inr (7, [.ref (ad 2), .ref (ad 5), .ref (ad 13), .ref (ad 28)])), (ad 28, .inl (ki 0, n_rbeg, .inl v_rbeg))]) hE hK hP [0, 3, 4, 8, 9] rfl 8 7 rfl rfl) rfl rfl hl.1 rfl (lv_room (Nat.le_of_ble_eq_true rfl)) d_Row_firstBrokenRule_1 ⟨Nat.le_of_ble_eq_true rfl, Nat.le_of_ble_eq_true rfl⟩) ?_
  refine zv_eq (tgt := 9) hx hb d_Row_firstBrokenRule_4 (by decide) (fun c_2 => ?_) (fun c_2 => ?_)
  · replace hf := q_ie hf c_2
    refine lv_aload_n hx hb d_Row_firstBrokenRule_9 rfl (lv_at hl 0 rfl) ?_
    obtain ⟨r_3, hc_3, hf⟩ := q_mb hf
    refine q_pcall (W.runV (As := []) (rest := []) ⟨hx, hb, hml, hown, hts⟩ (c_Row_someShareAStep l D ad ki n_iwid n_rbeg v_items_mustSet v_items_count v_iwid v_rbeg N r_3 hc_3) (cwV 0 hts (q_goodV ⟨m_500, m_502, m_15, m_62⟩ m_503) rfl rfl rfl (by decide +kernel) ⟨Nat.le_of_ble_eq_true rfl, Nat.le_of_ble_eq_true rfl⟩) (q_preVP (wc := [(ad 5, .inr (2, [.ref (ad 6), .ref (ad 7), .ref (ad 8), .ref (ad 9), .ref (ad 10), .ref (ad 11), .ref (ad 12), .int v_items_mustSet, .int v_items_count])), (ad 6, .inl (ki 0, n_iwid, .inl v_iwid)), (ad 27, .inr (7, [.ref (ad 2), .ref (ad 5), .ref (ad 13), .ref (ad 28)])), (ad 28, .inl (ki 0, n_rbeg, .inl v_rbeg))]) hE hK hP [3, 4, 8, 9] rfl 8 7 rfl rfl) rfl rfl hl.1 rfl (lv_room (Nat.le_of_ble_eq_true rfl)) d_Row_firstBrokenRule_10 ⟨Nat.le_of_ble_eq_true rfl, Nat.le_of_ble_eq_true rfl⟩) ?_
    refine zv_eq (tgt := 18) hx hb d_Row_firstBrokenRule_13 (by decide) (fun c_4 => ?_) (fun c_4 => ?_)
    · replace hf := q_ie hf c_4
      refine lv_aload_n hx hb d_Row_firstBrokenRule_18 rfl (lv_at hl 0 rfl) ?_
      obtain ⟨r_5, hc_5, hf⟩ := q_mb hf
      refine q_pcall (W.runV (As := []) (rest := []) ⟨hx, hb, hml, hown, hts⟩ (c_Row_someIsOnAFreeStep l D ad ki n_wfree n_iwid n_rbeg v_wall_steps v_wall_pipeCount v_wfree v_items_mustSet v_items_count v_iwid v_rbeg N r_5 hc_5) (cwV 0 hts (q_goodV ⟨m_512, m_514, m_18, m_62⟩ m_515) rfl rfl rfl (by decide +kernel) ⟨Nat.le_of_ble_eq_true rfl, Nat.le_of_ble_eq_true rfl⟩) (q_preVP (wc := [(ad 2, .inr (1, [.int v_wall_steps, .ref (ad 3), .ref (ad 4), .int v_wall_pipeCount])), (ad 3, .inl (ki 2, n_wfree, .inl v_wfree)), (ad 5, .inr (2, [.ref (ad 6), .ref (ad 7), .ref (ad 8), .ref (ad 9), .ref (ad 10), .ref (ad 11), .ref (ad 12), .int v_items_mustSet, .int v_items_count])), (ad 6, .inl (ki 0, n_iwid, .inl v_iwid)), (ad 27, .inr (7, [.ref (ad 2), .ref (ad 5), .ref (ad 13), .ref (ad 28)])), (ad 28, .inl (ki 0, n_rbeg, .inl v_rbeg))]) hE hK hP [0, 1, 3, 4, 8, 9] rfl 8 7 rfl rfl) rfl rfl hl.1 rfl (lv_room (Nat.le_of_ble_eq_true rfl)) d_Row_firstBrokenRule_19 ⟨Nat.le_of_ble_eq_true rfl, Nat.le_of_ble_eq_true rfl⟩) ?_
      refine zv_eq (tgt := 27) hx hb d_Row_firstBrokenRule_22 (by decide) (fun c_6 => ?_) (fun c_6 => ?_)
      · replace hf := q_ie hf c_6
        refine lv_aload_n hx hb d_Row_firstBrokenRule_27 rfl (lv_at hl 0 rfl) ?_
        refine va_get (D := D) (ci := 7) (v := .ref (ad 5)) (C := R_Row) (T := F_Row) (N := 4) hx hb hts hn_Row hown hK hP 8 rfl rfl 1 (by decide) hL15 (fun _ h9 => h9) rfl d_Row_firstBrokenRule_28 ?_
        refine va_get (D := D) (ci := 2) (v := .int v_items_mustSet) (C := R_Items) (T := F_Items) (N := 9) hx hb hts hn_Items hown hK hP 3 rfl rfl 7 (by decide) hL43 (fun _ h9 => h9) rfl d_Row_firstBrokenRule_31 ?_
        refine lv_aload_n hx hb d_Row_firstBrokenRule_34 rfl (lv_at hl 0 rfl) ?_
        obtain ⟨r_7, hc_7, hf⟩ := q_mb hf
        refine q_pcall (W.runV (As := []) (rest := [.int v_items_mustSet]) ⟨hx, hb, hml, hown, hts⟩ (c_Row_putSet l D ad ki n_rbeg v_items_mustSet v_items_count v_rbeg N r_7 hc_7) (cwV 0 hts (q_goodV ⟨m_524, m_526, m_21, m_62⟩ m_527) rfl rfl rfl (by decide +kernel) ⟨Nat.le_of_ble_eq_true rfl, Nat.le_of_ble_eq_true rfl⟩) (q_preVP (wc := [(ad 5, .inr (2, [.ref (ad 6), .ref (ad 7), .ref (ad 8), .ref (ad 9), .ref (ad 10), .ref (ad 11), .ref (ad 12), .int v_items_mustSet, .int v_items_count])), (ad 27, .inr (7, [.ref (ad 2), .ref (ad 5), .ref (ad 13), .ref (ad 28)])), (ad 28, .inl (ki 0, n_rbeg, .inl v_rbeg))]) hE hK hP [3, 8, 9] rfl 8 7 rfl rfl) rfl rfl hl.1 rfl (lv_room (Nat.le_of_ble_eq_true rfl)) d_Row_firstBrokenRule_35 ⟨Nat.le_of_ble_eq_true rfl, Nat.le_of_ble_eq_true rfl⟩) ?_
        refine lv_iconst (v := (-1)) hx hb d_Row_firstBrokenRule_38 (by decide) ?_
        refine lv_ixor hx hb d_Row_firstBrokenRule_39 ?_
        refine lv_iand hx hb d_Row_firstBrokenRule_40 ?_
        refine lv_if_eq (tgt := 46) hx hb d_Row_firstBrokenRule_41 (by decide) (fun c_8 => ?_) (fun c_8 => ?_)
        · replace hf := q_it hf c_8
          refine lv_aload_n hx hb d_Row_firstBrokenRule_46 rfl (lv_at hl 0 rfl) ?_
          obtain ⟨r_9, hc_9, hf⟩ := q_mb hf
          refine q_pcall (W.runV (As := []) (rest := []) ⟨hx, hb, hml, hown, hts⟩ (c_Row_someNeedIsNotMet l D ad ki n_wpip n_iwid n_inee n_rbeg v_wall_steps v_wall_pipeCount v_wpip v_items_mustSet v_items_count v_iwid v_inee v_rbeg N r_9 hc_9) (cwV 0 hts (q_goodV ⟨m_528, m_530, m_22, m_62⟩ m_531) rfl rfl rfl (by decide +kernel) ⟨Nat.le_of_ble_eq_true rfl, Nat.le_of_ble_eq_true rfl⟩) (q_preVP (wc := [(ad 2, .inr (1, [.int v_wall_steps, .ref (ad 3), .ref (ad 4), .int v_wall_pipeCount])), (ad 4, .inl (ki 0, n_wpip, .inl v_wpip)), (ad 5, .inr (2, [.ref (ad 6), .ref (ad 7), .ref (ad 8), .ref (ad 9), .ref (ad 10), .ref (ad 11), .ref (ad 12), .int v_items_mustSet, .int v_items_count])), (ad 6, .inl (ki 0, n_iwid, .inl v_iwid)), (ad 7, .inl (ki 0, n_inee, .inl v_inee)), (ad 27, .inr (7, [.ref (ad 2), .ref (ad 5), .ref (ad 13), .ref (ad 28)])), (ad 28, .inl (ki 0, n_rbeg, .inl v_rbeg))]) hE hK hP [0, 2, 3, 4, 5, 8, 9] rfl 8 7 rfl rfl) rfl rfl hl.1 rfl (lv_room (Nat.le_of_ble_eq_true rfl)) d_Row_firstBrokenRule_47 ⟨Nat.le_of_ble_eq_true rfl, Nat.le_of_ble_eq_true rfl⟩) ?_
          refine zv_eq (tgt := 55) hx hb d_Row_firstBrokenRule_50 (by decide) (fun c_10 => ?_) (fun c_10 => ?_)
          · replace hf := q_ie hf c_10
            refine lv_aload_n hx hb d_Row_firstBrokenRule_55 rfl (lv_at hl 0 rfl) ?_
            obtain ⟨r_11, hc_11, hf⟩ := q_mb hf
            refine q_pcall (W.runV (As := []) (rest := []) ⟨hx, hb, hml, hown, hts⟩ (c_Row_someBarredTouch l D ad ki n_iwid n_ibar n_rbeg v_items_mustSet v_items_count v_iwid v_ibar v_rbeg N r_11 hc_11) (cwV 0 hts (q_goodV ⟨m_533, m_535, m_23, m_62⟩ m_536) rfl rfl rfl (by decide +kernel) ⟨Nat.le_of_ble_eq_true rfl, Nat.le_of_ble_eq_true rfl⟩) (q_preVP (wc := [(ad 5, .inr (2, [.ref (ad 6), .ref (ad 7), .ref (ad 8), .ref (ad 9), .ref (ad 10), .ref (ad 11), .ref (ad 12), .int v_items_mustSet, .int v_items_count])), (ad 6, .inl (ki 0, n_iwid, .inl v_iwid)), (ad 8, .inl (ki 0, n_ibar, .inl v_ibar)), (ad 27, .inr (7, [.ref (ad 2), .ref (ad 5), .ref (ad 13), .ref (ad 28)])), (ad 28, .inl (ki 0, n_rbeg, .inl v_rbeg))]) hE hK hP [3, 4, 6, 8, 9] rfl 8 7 rfl rfl) rfl rfl hl.1 rfl (lv_room (Nat.le_of_ble_eq_true rfl)) d_Row_firstBrokenRule_56 ⟨Nat.le_of_ble_eq_true rfl, Nat.le_of_ble_eq_true rfl⟩) ?_
            refine zv_eq (tgt := 65) hx hb d_Row_firstBrokenRule_59 (by decide) (fun c_12 => ?_) (fun c_12 => ?_)
            · replace hf := q_ie hf c_12
              refine lv_aload_n hx hb d_Row_firstBrokenRule_65 rfl (lv_at hl 0 rfl) ?_
              obtain ⟨r_13, hc_13, hf⟩ := q_mb hf
              refine q_pcall (W.runV (As := []) (rest := []) ⟨hx, hb, hml, hown, hts⟩ (c_Row_someGapIsNoFiller l D ad ki n_wfree n_iwid n_rbeg v_wall_steps v_wall_pipeCount v_wfree v_items_mustSet v_items_count v_iwid v_fill_least v_fill_most v_rbeg N r_13 hc_13) (cwV 0 hts (q_goodV ⟨m_542, m_544, m_25, m_62⟩ m_545) rfl rfl rfl (by decide +kernel) ⟨Nat.le_of_ble_eq_true rfl, Nat.le_of_ble_eq_true rfl⟩) (q_preVP (wc := [(ad 2, .inr (1, [.int v_wall_steps, .ref (ad 3), .ref (ad 4), .int v_wall_pipeCount])), (ad 3, .inl (ki 2, n_wfree, .inl v_wfree)), (ad 5, .inr (2, [.ref (ad 6), .ref (ad 7), .ref (ad 8), .ref (ad 9), .ref (ad 10), .ref (ad 11), .ref (ad 12), .int v_items_mustSet, .int v_items_count])), (ad 6, .inl (ki 0, n_iwid, .inl v_iwid)), (ad 13, .inr (3, [.int v_fill_least, .int v_fill_most])), (ad 27, .inr (7, [.ref (ad 2), .ref (ad 5), .ref (ad 13), .ref (ad 28)])), (ad 28, .inl (ki 0, n_rbeg, .inl v_rbeg))]) hE hK hP [0, 1, 3, 4, 7, 8, 9] rfl 8 7 rfl rfl) rfl rfl hl.1 rfl (lv_room (Nat.le_of_ble_eq_true rfl)) d_Row_firstBrokenRule_66 ⟨Nat.le_of_ble_eq_true rfl, Nat.le_of_ble_eq_true rfl⟩) ?_
              refine zv_eq (tgt := 77) hx hb d_Row_firstBrokenRule_69 (by decide) (fun c_14 => ?_) (fun c_14 => ?_)
              · replace hf := q_ie hf c_14
                refine lv_iconst (v := 0) hx hb d_Row_firstBrokenRule_77 (by decide) ?_
                cases hf
                exact W.iret (v := 0) hx hb hr (fun t ht hW => ⟨rfl, ht⟩) (fun q h => nomatch h) d_Row_firstBrokenRule_78
              replace hf := q_it hf c_14
              refine lv_bipush (v := 7) hx hb d_Row_firstBrokenRule_72 (by decide) ?_
              refine lv_goto (tgt := 78) hx hb d_Row_firstBrokenRule_74 (by decide) ?_
              cases hf
              exact W.iret (v := 7) hx hb hr (fun t ht hW => ⟨rfl, ht⟩) (fun q h => nomatch h) d_Row_firstBrokenRule_78
            replace hf := q_it hf c_12
            refine lv_bipush (v := 6) hx hb d_Row_firstBrokenRule_62 (by decide) ?_
            cases hf
            exact W.iret (v := 6) hx hb hr (fun t ht hW => ⟨rfl, ht⟩) (fun q h => nomatch h) d_Row_firstBrokenRule_64
          replace hf := q_it hf c_10
          refine lv_iconst (v := 5) hx hb d_Row_firstBrokenRule_53 (by decide) ?_
          cases hf
          exact W.iret (v := 5) hx hb hr (fun t ht hW => ⟨rfl, ht⟩) (fun q h => nomatch h) d_Row_firstBrokenRule_54
        replace hf := q_ie hf c_8
        refine lv_iconst (v := 4) hx hb d_Row_firstBrokenRule_44 (by decide) ?_
        cases hf
        exact W.iret (v := 4) hx hb hr (fun t ht hW => ⟨rfl, ht⟩) (fun q h => nomatch h) d_Row_firstBrokenRule_45
      replace hf := q_it hf c_6
      refine lv_iconst (v := 3) hx hb d_Row_firstBrokenRule_25 (by decide) ?_
      cases hf
      exact W.iret (v := 3) hx hb hr (fun t ht hW => ⟨rfl, ht⟩) (fun q h => nomatch h) d_Row_firstBrokenRule_26
    replace hf := q_it hf c_4
    refine lv_iconst (v := 2) hx hb d_Row_firstBrokenRule_16 (by decide) ?_
    cases hf
    exact W.iret (v := 2) hx hb hr (fun t ht hW => ⟨rfl, ht⟩) (fun q h => nomatch h) d_Row_firstBrokenRule_17
  replace hf := q_it hf c_2
  refine lv_iconst (v := 1) hx hb d_Row_firstBrokenRule_7 (by decide) ?_
  cases hf
  exact W.iret (v := 1) hx hb hr (fun t ht hW => ⟨rfl, ht⟩) (fun q h => nomatch h) d_Row_firstBrokenRule_8
def f_Row_wholeWorth_cut (N : Nat) (n_iwid : Nat) (n_inea : Nat) (n_iswo : Nat) (n_rbeg : Nat) (v_items_mustSet : Int32) (v_items_count : Int32) (v_iwid : Nat → Int32) (v_inea : Nat → Int64) (v_iswo : Nat → Int64) (v_rbeg : Nat → Int32) : Nat → Nat → Int64 → Int32 → Int32 → Option (Int64)
  | 0, _, _, _, _ => none
  | n + 1, t, x1, x3, x4 => if t = 0 then (if v_items_count ≤ x3 then (some x1) else (f_Row_wholeWorth_cut N n_iwid n_inea n_iswo n_rbeg v_items_mustSet v_items_count v_iwid v_inea v_iswo v_rbeg n 1 x1 x3 (x3 + 1))) else (if v_items_count ≤ x4 then (f_Row_wholeWorth_cut N n_iwid n_inea n_iswo n_rbeg v_items_mustSet v_items_count v_iwid v_inea v_iswo v_rbeg n 0 x1 (x3 + 1) 0) else (Option.bind (f_Row_doTouch N n_iwid n_rbeg v_items_mustSet v_items_count v_iwid v_rbeg x3 x4) (fun r_3 => (if r_3 = true then (Option.bind (f_Items_nearWorthOf N n_inea v_items_mustSet v_items_count v_inea x3 x4) (fun r_5 => (f_Row_wholeWorth_cut N n_iwid n_inea n_iswo n_rbeg v_items_mustSet v_items_count v_iwid v_inea v_iswo v_rbeg n 1 (x1 + r_5) x3 (x4 + 1)))) else (f_Row_wholeWorth_cut N n_iwid n_inea n_iswo n_rbeg v_items_mustSet v_items_count v_iwid v_inea v_iswo v_rbeg n 1 x1 x3 (x4 + 1))))))
theorem f_Row_wholeWorth_cut_0 (N : Nat) (n_iwid : Nat) (n_inea : Nat) (n_iswo : Nat) (n_rbeg : Nat) (v_items_mustSet : Int32) (v_items_count : Int32) (v_iwid : Nat → Int32) (v_inea : Nat → Int64) (v_iswo : Nat → Int64) (v_rbeg : Nat → Int32) (n : Nat) (x1 : Int64) (x3 : Int32) (x4 : Int32) : f_Row_wholeWorth_cut N n_iwid n_inea n_iswo n_rbeg v_items_mustSet v_items_count v_iwid v_inea v_iswo v_rbeg (n + 1) 0 x1 x3 x4 = (if v_items_count ≤ x3 then (some x1) else (f_Row_wholeWorth_cut N n_iwid n_inea n_iswo n_rbeg v_items_mustSet v_items_count v_iwid v_inea v_iswo v_rbeg n 1 x1 x3 (x3 + 1))) := rfl
theorem f_Row_wholeWorth_cut_1 (N : Nat) (n_iwid : Nat) (n_inea : Nat) (n_iswo : Nat) (n_rbeg : Nat) (v_items_mustSet : Int32) (v_items_count : Int32) (v_iwid : Nat → Int32) (v_inea : Nat → Int64) (v_iswo : Nat → Int64) (v_rbeg : Nat → Int32) (n : Nat) (x1 : Int64) (x3 : Int32) (x4 : Int32) : f_Row_wholeWorth_cut N n_iwid n_inea n_iswo n_rbeg v_items_mustSet v_items_count v_iwid v_inea v_iswo v_rbeg (n + 1) 1 x1 x3 x4 = (if v_items_count ≤ x4 then (f_Row_wholeWorth_cut N n_iwid n_inea n_iswo n_rbeg v_items_mustSet v_items_count v_iwid v_inea v_iswo v_rbeg n 0 x1 (x3 + 1) 0) else (Option.bind (f_Row_doTouch N n_iwid n_rbeg v_items_mustSet v_items_count v_iwid v_rbeg x3 x4) (fun r_3 => (if r_3 = true then (Option.bind (f_Items_nearWorthOf N n_inea v_items_mustSet v_items_count v_inea x3 x4) (fun r_5 => (f_Row_wholeWorth_cut N n_iwid n_inea n_iswo n_rbeg v_items_mustSet v_items_count v_iwid v_inea v_iswo v_rbeg n 1 (x1 + r_5) x3 (x4 + 1)))) else (f_Row_wholeWorth_cut N n_iwid n_inea n_iswo n_rbeg v_items_mustSet v_items_count v_iwid v_inea v_iswo v_rbeg n 1 x1 x3 (x4 + 1)))))) := rfl
def f_Row_wholeWorth (N : Nat) (n_iwid : Nat) (n_inea : Nat) (n_iswo : Nat) (n_rbeg : Nat) (v_items_mustSet : Int32) (v_items_count : Int32) (v_iwid : Nat → Int32) (v_inea : Nat → Int64) (v_iswo : Nat → Int64) (v_rbeg : Nat → Int32)  : Option (Int64) := (Option.bind (f_Row_putSet N n_rbeg v_items_mustSet v_items_count v_rbeg) (fun r_6 => (if r_6 < 0 ∨ n_iswo ≤ Int32.toNatClampNeg r_6 then none else (f_Row_wholeWorth_cut N n_iwid n_inea n_iswo n_rbeg v_items_mustSet v_items_count v_iwid v_inea v_iswo v_rbeg N 0 (v_iswo (Int32.toNatClampNeg r_6)) 0 0))))
set_option maxRecDepth 100000 in
set_option maxHeartbeats 4000000 in
theorem c_Row_wholeWorth (l : Launch) (D : va_G) (ad : Nat → Nat) (ki : Nat → ClassId) (n_iwid : Nat) (n_inea : Nat) (n_iswo : Nat) (n_rbeg : Nat) (v_items_mustSet : Int32) (v_items_count : Int32) (v_iwid : Nat → Int32) (v_inea : Nat → Int64) (v_iswo : Nat → Int64) (v_rbeg : Nat → Int32)  (N : Nat) (r : Int64) (hf : f_Row_wholeWorth N n_iwid n_inea n_iswo n_rbeg v_items_mustSet v_items_count v_iwid v_inea v_iswo v_rbeg = some r) : Met l y_Row_wholeWorth w_Row_wholeWorth { frames := 2, cells := 0, slots := 0, locals := 43 } (q_PcP [.ref (ad 27)] D vwCl [(ad 5, .inr (2, [.ref (ad 6), .ref (ad 7), .ref (ad 8), .ref (ad 9), .ref (ad 10), .ref (ad 11), .ref (ad 12), .int v_items_mustSet, .int v_items_count])), (ad 6, .inl (ki 0, n_iwid, .inl v_iwid)), (ad 9, .inl (ki 1, n_inea, .inr (.inl v_inea))), (ad 11, .inl (ki 1, n_iswo, .inr (.inl v_iswo))), (ad 27, .inr (7, [.ref (ad 2), .ref (ad 5), .ref (ad 13), .ref (ad 28)])), (ad 28, .inl (ki 0, n_rbeg, .inl v_rbeg))] (TYS ki)) (k2_QcV (.long r)) 0 0 (fun _ => False) := by
  refine Met.ofW (cc := b_Row_wholeWorth) (maxL := 5) (ret := (some .long)) (by decide) rfl ?_
  intro p e s m args below meth c s₁ B hml hv
  obtain ⟨rfl, hP, hK, hE⟩ := hv
  have hx := B.exec
  have hb := B.bytes
  have hr := B.returns
  have hts := atoms_spec (ws := w_Row_wholeWorth) B.pre
  have hown : s.vm.findClass R_Row = some m.cls := findClass_of_methodNamed B.named
  have hlocks := B.notSynchronized
  have hn_Items : ∀ w ∈ u_ws R_Items F_Items 9, w ∈ w_Row_wholeWorth := (fun w h => List.mem_cons_of_mem _ (i_Items w h))
  have hn_Row : ∀ w ∈ u_ws R_Row F_Row 4, w ∈ w_Row_wholeWorth := (fun w h => List.mem_cons_of_mem _ (i_Row w h))
  have hL15 := hts (.fieldLink R_Row 15 "RoomFills$Row" "items" "LRoomFills$Items;") (List.mem_cons_of_mem _ m_307)
  have hL62 := hts (.fieldLink R_Row 62 "RoomFills$Items" "setWorth" "[J") (List.mem_cons_of_mem _ m_131)
  have hL66 := hts (.fieldLink R_Row 66 "RoomFills$Items" "count" "I") (List.mem_cons_of_mem _ m_142)
  replace hP : va_P D vwCl [(ad 5, .inr (2, [.ref (ad 6), .ref (ad 7), .ref (ad 8), .ref (ad 9), .ref (ad 10), .ref (ad 11), .ref (ad 12), .int v_items_mustSet, .int v_items_count])), (ad 6, .inl (ki 0, n_iwid, .inl v_iwid)), (ad 9, .inl (ki 1, n_inea, .inr (.inl v_inea))), (ad 11, .inl (ki 1, n_iswo, .inr (.inl v_iswo))), (ad 27, .inr (7, [.ref (ad 2), .ref (ad 5), .ref (ad 13), .ref (ad 28)])), (ad 28, .inl (ki 0, n_rbeg, .inl v_rbeg))] s.heap := hP
  have hl := lv_entry ([.ref (ad 27)]) (n := 5) (Nat.le_of_ble_eq_true rfl)
  rw [lg_entry_eq]
  generalize (lg_sl ([.ref (ad 27)]) ++ List.replicate (5 - (lg_sl ([.ref (ad 27)])).length) Slot.unset).toArray = ls at hl ⊢
  replace hl : lv_has ls 5 [(0, .ref (ad 27))] := hl
  have key : ∀ n : Nat, (∀ (x1 : Int64) (x3 : Int32), f_Row_wholeWorth_cut N n_iwid n_inea n_iswo n_rbeg v_items_mustSet v_items_count v_iwid v_inea v_iswo v_rbeg n 0 x1 x3 0 = some r → ∀ (ls : Array Slot), lv_has ls 5 [(0, .ref (ad 27)), (1, .long x1), (3, .int x3)] → W p l e (headSpec w_Row_wholeWorth { frames := 2, cells := 0, slots := 0, locals := 43 }).room s m ([.ref (ad 27)] : List Value).toArray below meth c s.heap [] 0 0 (MQ below (k2_QcV (.long r)) ([.ref (ad 27)] : List Value).toArray s 0 0 (fun _ => False)) (F0 m 15 ls [])) ∧ (∀ (x1 : Int64) (x3 : Int32) (x4 : Int32), f_Row_wholeWorth_cut N n_iwid n_inea n_iswo n_rbeg v_items_mustSet v_items_count v_iwid v_inea v_iswo v_rbeg n 1 x1 x3 x4 = some r → ∀ (ls : Array Slot), lv_has ls 5 [(0, .ref (ad 27)), (1, .long x1), (3, .int x3), (4, .int x4)] → W p l e (headSpec w_Row_wholeWorth { frames := 2, cells := 0, slots := 0, locals := 43 }).room s m ([.ref (ad 27)] : List Value).toArray below meth c s.heap [] 0 0 (MQ below (k2_QcV (.long r)) ([.ref (ad 27)] : List Value).toArray s 0 0 (fun _ => False)) (F0 m 31 ls [])) := by
    intro n
    induction n with
    | zero =>
      exact ⟨fun x1 x3 hf => (nomatch (show none = some _ from hf)), fun x1 x3 x4 hf => (nomatch (show none = some _ from hf))⟩
    | succ n ih =>
      refine ⟨?_, ?_⟩
      · intro x1 x3 hf ls hl
        rw [f_Row_wholeWorth_cut_0] at hf
        refine lv_iload_n hx hb d_Row_wholeWorth_15 rfl (lv_at hl 2 rfl) ?_
        refine lv_aload_n hx hb d_Row_wholeWorth_16 rfl (lv_at hl 0 rfl) ?_
        refine va_get (D := D) (ci := 7) (v := .ref (ad 5)) (C := R_Row) (T := F_Row) (N := 4) hx hb hts hn_Row hown hK hP 4 rfl rfl 1 (by decide) hL15 (fun _ h9 => h9) rfl d_Row_wholeWorth_17 ?_
        refine va_get (D := D) (ci := 2) (v := .int v_items_count) (C := R_Items) (T := F_Items) (N := 9) hx hb hts hn_Items hown hK hP 0 rfl rfl 8 (by decide) hL66 (fun _ h9 => h9) rfl d_Row_wholeWorth_20 ?_
        refine lv_icmp_ge (tgt := 78) hx hb d_Row_wholeWorth_23 (by decide) (fun c_1 => ?_) (fun c_1 => ?_)
        · replace hf := q_it hf c_1
          refine lv_lload_n hx hb d_Row_wholeWorth_78 rfl (lv_at hl 1 rfl) ?_
          cases hf
          first | exact W.lret (v := x1) hx hb hr (fun t ht hW => ⟨rfl, ht⟩) (fun q h => nomatch h) d_Row_wholeWorth_79 | exact W.lret (v := r) hx hb hr (fun t ht hW => ⟨rfl, ht⟩) (fun q h => nomatch h) d_Row_wholeWorth_79
        replace hf := q_ie hf c_1
        refine lv_iload_n hx hb d_Row_wholeWorth_26 rfl (lv_at hl 2 rfl) ?_
        refine lv_iconst (v := 1) hx hb d_Row_wholeWorth_27 (by decide) ?_
        refine lv_iadd hx hb d_Row_wholeWorth_28 ?_
        refine lv_istore (lv' := [(4, .int (x3 + 1)), (0, .ref (ad 27)), (1, .long x1), (3, .int x3)]) hx hb d_Row_wholeWorth_29 hl (by decide) rfl (fun ls hl => ?_)
        exact (ih).2 x1 x3 (x3 + 1) hf ls (lv_sub hl [1, 2, 3, 0] rfl)
      · intro x1 x3 x4 hf ls hl
        rw [f_Row_wholeWorth_cut_1] at hf
        refine lv_iload hx hb d_Row_wholeWorth_31 (lv_at hl 3 rfl) ?_
        refine lv_aload_n hx hb d_Row_wholeWorth_33 rfl (lv_at hl 0 rfl) ?_
        refine va_get (D := D) (ci := 7) (v := .ref (ad 5)) (C := R_Row) (T := F_Row) (N := 4) hx hb hts hn_Row hown hK hP 4 rfl rfl 1 (by decide) hL15 (fun _ h9 => h9) rfl d_Row_wholeWorth_34 ?_
        refine va_get (D := D) (ci := 2) (v := .int v_items_count) (C := R_Items) (T := F_Items) (N := 9) hx hb hts hn_Items hown hK hP 0 rfl rfl 8 (by decide) hL66 (fun _ h9 => h9) rfl d_Row_wholeWorth_37 ?_
        refine lv_icmp_ge (tgt := 72) hx hb d_Row_wholeWorth_40 (by decide) (fun c_2 => ?_) (fun c_2 => ?_)
        · replace hf := q_it hf c_2
          refine lv_iinc (v := (x3 + 1)) (lv' := [(3, .int (x3 + 1)), (0, .ref (ad 27)), (1, .long x1), (4, .int x4)]) hx hb d_Row_wholeWorth_72 hl (k := 2) rfl rfl (by decide) rfl (fun ls hl => ?_)
          refine lv_goto (tgt := 15) hx hb d_Row_wholeWorth_75 (by decide) ?_
          exact (ih).1 x1 (x3 + 1) hf ls (lv_sub hl [1, 2, 0] rfl)
        replace hf := q_ie hf c_2
        refine lv_aload_n hx hb d_Row_wholeWorth_43 rfl (lv_at hl 0 rfl) ?_
        refine lv_iload_n hx hb d_Row_wholeWorth_44 rfl (lv_at hl 2 rfl) ?_
        refine lv_iload hx hb d_Row_wholeWorth_45 (lv_at hl 3 rfl) ?_
        obtain ⟨r_3, hc_3, hf⟩ := q_mb hf
        refine q_pcall (W.runV (As := [.int x3, .int x4]) (rest := []) ⟨hx, hb, hml, hown, hts⟩ (c_Row_doTouch l D ad ki n_iwid n_rbeg v_items_mustSet v_items_count v_iwid v_rbeg x3 x4 N r_3 hc_3) (cwV 2 hts (q_goodV ⟨m_538, m_540, m_24, m_62⟩ m_541) rfl rfl rfl (by decide +kernel) ⟨Nat.le_of_ble_eq_true rfl, Nat.le_of_ble_eq_true rfl⟩) (q_preVP (wc := [(ad 5, .inr (2, [.ref (ad 6), .ref (ad 7), .ref (ad 8), .ref (ad 9), .ref (ad 10), .ref (ad 11), .ref (ad 12), .int v_items_mustSet, .int v_items_count])), (ad 6, .inl (ki 0, n_iwid, .inl v_iwid)), (ad 27, .inr (7, [.ref (ad 2), .ref (ad 5), .ref (ad 13), .ref (ad 28)])), (ad 28, .inl (ki 0, n_rbeg, .inl v_rbeg))]) hE hK hP [0, 1, 4, 5] rfl 4 7 rfl rfl) rfl rfl hl.1 rfl (lv_room (Nat.le_of_ble_eq_true rfl)) d_Row_wholeWorth_47 ⟨Nat.le_of_ble_eq_true rfl, Nat.le_of_ble_eq_true rfl⟩) ?_
        refine zv_eq (tgt := 66) hx hb d_Row_wholeWorth_50 (by decide) (fun c_4 => ?_) (fun c_4 => ?_)
        · replace hf := q_ie hf c_4
          refine lv_iinc (v := (x4 + 1)) (lv' := [(4, .int (x4 + 1)), (0, .ref (ad 27)), (1, .long x1), (3, .int x3)]) hx hb d_Row_wholeWorth_66 hl (k := 3) rfl rfl (by decide) rfl (fun ls hl => ?_)
          refine lv_goto (tgt := 31) hx hb d_Row_wholeWorth_69 (by decide) ?_
          exact (ih).2 x1 x3 (x4 + 1) hf ls (lv_sub hl [1, 2, 3, 0] rfl)
        replace hf := q_it hf c_4
        refine lv_lload_n hx hb d_Row_wholeWorth_53 rfl (lv_at hl 1 rfl) ?_
        refine lv_aload_n hx hb d_Row_wholeWorth_54 rfl (lv_at hl 0 rfl) ?_
        refine va_get (D := D) (ci := 7) (v := .ref (ad 5)) (C := R_Row) (T := F_Row) (N := 4) hx hb hts hn_Row hown hK hP 4 rfl rfl 1 (by decide) hL15 (fun _ h9 => h9) rfl d_Row_wholeWorth_55 ?_
        refine lv_iload_n hx hb d_Row_wholeWorth_58 rfl (lv_at hl 2 rfl) ?_
        refine lv_iload hx hb d_Row_wholeWorth_59 (lv_at hl 3 rfl) ?_
        obtain ⟨r_5, hc_5, hf⟩ := q_mb hf
        refine q_pcall (W.runV (As := [.int x3, .int x4]) (rest := [.long x1]) ⟨hx, hb, hml, hown, hts⟩ (c_Items_nearWorthOf l D ad ki n_inea v_items_mustSet v_items_count v_inea x3 x4 N r_5 hc_5) (cwV 2 hts (q_goodV ⟨m_558, m_461, m_462, m_57⟩ m_463) rfl rfl rfl (by decide +kernel) ⟨Nat.le_of_ble_eq_true rfl, Nat.le_of_ble_eq_true rfl⟩) (q_preVP (wc := [(ad 5, .inr (2, [.ref (ad 6), .ref (ad 7), .ref (ad 8), .ref (ad 9), .ref (ad 10), .ref (ad 11), .ref (ad 12), .int v_items_mustSet, .int v_items_count])), (ad 9, .inl (ki 1, n_inea, .inr (.inl v_inea)))]) hE hK hP [0, 2] rfl 0 2 rfl rfl) rfl rfl hl.1 rfl (lv_room (Nat.le_of_ble_eq_true rfl)) d_Row_wholeWorth_61 ⟨Nat.le_of_ble_eq_true rfl, Nat.le_of_ble_eq_true rfl⟩) ?_
        refine lv_ladd hx hb d_Row_wholeWorth_64 ?_
        refine lv_lstore_n (lv' := [(1, .long (x1 + r_5)), (0, .ref (ad 27)), (3, .int x3), (4, .int x4)]) hx hb d_Row_wholeWorth_65 rfl hl (by decide) rfl (fun ls hl => ?_)
        refine lv_iinc (v := (x4 + 1)) (lv' := [(4, .int (x4 + 1)), (1, .long (x1 + r_5)), (0, .ref (ad 27)), (3, .int x3)]) hx hb d_Row_wholeWorth_66 hl (k := 3) rfl rfl (by decide) rfl (fun ls hl => ?_)
        refine lv_goto (tgt := 31) hx hb d_Row_wholeWorth_69 (by decide) ?_
        exact (ih).2 (x1 + r_5) x3 (x4 + 1) hf ls (lv_sub hl [2, 1, 3, 0] rfl)
  unfold f_Row_wholeWorth at hf
  refine lv_aload_n hx hb d_Row_wholeWorth_0 rfl (lv_at hl 0 rfl) ?_
  refine va_get (D := D) (ci := 7) (v := .ref (ad 5)) (C := R_Row) (T := F_Row) (N := 4) hx hb hts hn_Row hown hK hP 4 rfl rfl 1 (by decide) hL15 (fun _ h9 => h9) rfl d_Row_wholeWorth_1 ?_
  refine va_get (D := D) (ci := 2) (v := .ref (ad 11)) (C := R_Items) (T := F_Items) (N := 9) hx hb hts hn_Items hown hK hP 0 rfl rfl 5 (by decide) hL62 (fun _ h9 => h9) rfl d_Row_wholeWorth_4 ?_
  refine lv_aload_n hx hb d_Row_wholeWorth_7 rfl (lv_at hl 0 rfl) ?_
  obtain ⟨r_6, hc_6, hf⟩ := q_mb hf
  refine q_pcall (W.runV (As := []) (rest := [.ref (ad 11)]) ⟨hx, hb, hml, hown, hts⟩ (c_Row_putSet l D ad ki n_rbeg v_items_mustSet v_items_count v_rbeg N r_6 hc_6) (cwV 0 hts (q_goodV ⟨m_524, m_526, m_21, m_62⟩ m_527) rfl rfl rfl (by decide +kernel) ⟨Nat.le_of_ble_eq_true rfl, Nat.le_of_ble_eq_true rfl⟩) (q_preVP (wc := [(ad 5, .inr (2, [.ref (ad 6), .ref (ad 7), .ref (ad 8), .ref (ad 9), .ref (ad 10), .ref (ad 11), .ref (ad 12), .int v_items_mustSet, .int v_items_count])), (ad 27, .inr (7, [.ref (ad 2), .ref (ad 5), .ref (ad 13), .ref (ad 28)])), (ad 28, .inl (ki 0, n_rbeg, .inl v_rbeg))]) hE hK hP [0, 4, 5] rfl 4 7 rfl rfl) rfl rfl hl.1 rfl (lv_room (Nat.le_of_ble_eq_true rfl)) d_Row_wholeWorth_8 ⟨Nat.le_of_ble_eq_true rfl, Nat.le_of_ble_eq_true rfl⟩) ?_
  obtain ⟨hi_7, hf⟩ := q_ck hf
  refine va_lald hx hb hK hP 3 1 rfl rfl hi_7 d_Row_wholeWorth_11 ?_
  refine lv_lstore_n (lv' := [(1, .long (v_iswo (Int32.toNatClampNeg r_6))), (0, .ref (ad 27))]) hx hb d_Row_wholeWorth_12 rfl hl (by decide) rfl (fun ls hl => ?_)
  refine lv_iconst (v := 0) hx hb d_Row_wholeWorth_13 (by decide) ?_
  refine lv_istore_n (lv' := [(3, .int 0), (1, .long (v_iswo (Int32.toNatClampNeg r_6))), (0, .ref (ad 27))]) hx hb d_Row_wholeWorth_14 rfl hl (by decide) rfl (fun ls hl => ?_)
  exact (key N).1 (v_iswo (Int32.toNatClampNeg r_6)) 0 hf ls (lv_sub hl [2, 1, 0] rfl)
