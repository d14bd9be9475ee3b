def f_Table_cell (N : Nat)  (p1 : Int32) (p2 : Int32) : Option (Int32) := (some (((p1 * 64) + p2) * 8))
set_option maxRecDepth 100000 in
set_option maxHeartbeats 4000000 in
theorem c_Table_cell (l : Launch) (D : va_G) (ad : Nat → Nat) (ki : Nat → ClassId)  (p1 : Int32) (p2 : Int32) (N : Nat) (r : Int32) (hf : f_Table_cell N p1 p2 = some r) : Met l y_Table_cell w_Table_cell { frames := 0, cells := 0, slots := 0, locals := 0 } (q_PcP [.int p1, .int p2] D vwCl [] (TYS ki)) (k2_QcV (.int r)) 0 0 (fun _ => False) := by
  refine Met.ofW (cc := b_Table_cell) (maxL := 2) (ret := (some .int)) (by decide) rfl ?_
  intro p e s m args below meth c s₁ B hml hv
  obtain ⟨rfl, hP, hK, hE⟩ := hv
  have hx := B.exec
  have hb := B.bytes
  have hr := B.returns
  have hts := atoms_spec (ws := w_Table_cell) B.pre
  have hown : s.vm.findClass R_Table = some m.cls := findClass_of_methodNamed B.named
  have hlocks := B.notSynchronized
  replace hP : va_P D vwCl [] s.heap := hP
  have hl := lv_entry ([.int p1, .int p2]) (n := 2) (Nat.le_of_ble_eq_true rfl)
  rw [lg_entry_eq]
  generalize (lg_sl ([.int p1, .int p2]) ++ List.replicate (2 - (lg_sl ([.int p1, .int p2])).length) Slot.unset).toArray = ls at hl ⊢
  replace hl : lv_has ls 2 [(0, .int p1), (1, .int p2)] := hl
  unfold f_Table_cell at hf
  refine lv_iload_n hx hb d_Table_cell_0 rfl (lv_at hl 0 rfl) ?_
  refine lv_bipush (v := 64) hx hb d_Table_cell_1 (by decide) ?_
  refine lv_imul hx hb d_Table_cell_3 ?_
  refine lv_iload_n hx hb d_Table_cell_4 rfl (lv_at hl 1 rfl) ?_
  refine lv_iadd hx hb d_Table_cell_5 ?_
  refine lv_bipush (v := 8) hx hb d_Table_cell_6 (by decide) ?_
  refine lv_imul hx hb d_Table_cell_8 ?_
  cases hf
  exact W.iret (v := (((p1 * 64) + p2) * 8)) hx hb hr (fun t ht hW => ⟨rfl, ht⟩) (fun q h => nomatch h) d_Table_cell_9
def f_Table_bestWithFiller_cut (N : Nat) (n_tval : Nat) (n_tlon : Nat) (v_fill_least : Int32) (v_fill_most : Int32) (v_tval : Nat → Int64) (v_tlon : Nat → Int32) : Nat → Nat → Int32 → Int32 → Int64 → Int32 → Int32 → Int32 → Option (Int64)
  | 0, _, _, _, _, _, _, _ => none
  | n + 1, t, x1, x2, x3, x5, x6, x7 => (if x5 < x7 then (some x3) else (if x6 < 0 ∨ n_tval ≤ Int32.toNatClampNeg x6 then none else (if (lg_cmp (v_tval (Int32.toNatClampNeg x6)) x3) ≤ 0 then (f_Table_bestWithFiller_cut N n_tval n_tlon v_fill_least v_fill_most v_tval v_tlon n 0 x1 x2 x3 x5 (x6 + 512) (x7 + 1)) else (if x6 < 0 ∨ n_tval ≤ Int32.toNatClampNeg x6 then none else (f_Table_bestWithFiller_cut N n_tval n_tlon v_fill_least v_fill_most v_tval v_tlon n 0 x1 x2 (v_tval (Int32.toNatClampNeg x6)) x5 (x6 + 512) (x7 + 1))))))
theorem f_Table_bestWithFiller_cut_0 (N : Nat) (n_tval : Nat) (n_tlon : Nat) (v_fill_least : Int32) (v_fill_most : Int32) (v_tval : Nat → Int64) (v_tlon : Nat → Int32) (n : Nat) (x1 : Int32) (x2 : Int32) (x3 : Int64) (x5 : Int32) (x6 : Int32) (x7 : Int32) : f_Table_bestWithFiller_cut N n_tval n_tlon v_fill_least v_fill_most v_tval v_tlon (n + 1) 0 x1 x2 x3 x5 x6 x7 = (if x5 < x7 then (some x3) else (if x6 < 0 ∨ n_tval ≤ Int32.toNatClampNeg x6 then none else (if (lg_cmp (v_tval (Int32.toNatClampNeg x6)) x3) ≤ 0 then (f_Table_bestWithFiller_cut N n_tval n_tlon v_fill_least v_fill_most v_tval v_tlon n 0 x1 x2 x3 x5 (x6 + 512) (x7 + 1)) else (if x6 < 0 ∨ n_tval ≤ Int32.toNatClampNeg x6 then none else (f_Table_bestWithFiller_cut N n_tval n_tlon v_fill_least v_fill_most v_tval v_tlon n 0 x1 x2 (v_tval (Int32.toNatClampNeg x6)) x5 (x6 + 512) (x7 + 1)))))) := rfl
def f_Table_bestWithFiller (N : Nat) (n_tval : Nat) (n_tlon : Nat) (v_fill_least : Int32) (v_fill_most : Int32) (v_tval : Nat → Int64) (v_tlon : Nat → Int32) (p1 : Int32) (p2 : Int32) : Option (Int64) := (if p1 < 0 ∨ n_tlon ≤ Int32.toNatClampNeg p1 then none else (Option.bind (f_Table_cell N (p1 + v_fill_least) p2) (fun r_6 => (f_Table_bestWithFiller_cut N n_tval n_tlon v_fill_least v_fill_most v_tval v_tlon N 0 p1 p2 (-1) (v_tlon (Int32.toNatClampNeg p1)) (r_6 + 6) v_fill_least))))
set_option maxRecDepth 100000 in
set_option maxHeartbeats 4000000 in
theorem c_Table_bestWithFiller (l : Launch) (D : va_G) (ad : Nat → Nat) (ki : Nat → ClassId) (n_tval : Nat) (n_tlon : Nat) (v_fill_least : Int32) (v_fill_most : Int32) (v_tval : Nat → Int64) (v_tlon : Nat → Int32) (p1 : Int32) (p2 : Int32) (N : Nat) (r : Int64) (hf : f_Table_bestWithFiller N n_tval n_tlon v_fill_least v_fill_most v_tval v_tlon p1 p2 = some r) : Met l y_Table_bestWithFiller w_Table_bestWithFiller { frames := 1, cells := 0, slots := 0, locals := 21 } (q_PcP [.ref (ad 14), .int p1, .int p2] D vwCl [(ad 13, .inr (3, [.int v_fill_least, .int v_fill_most])), (ad 14, .inr (4, [.ref (ad 2), .ref (ad 5), .ref (ad 13), .ref (ad 15), .ref (ad 16), .ref (ad 17)])), (ad 15, .inl (ki 1, n_tval, .inr (.inl v_tval))), (ad 17, .inl (ki 0, n_tlon, .inl v_tlon))] (TYS ki)) (k2_QcV (.long r)) 0 0 (fun _ => False) := by
  refine Met.ofW (cc := b_Table_bestWithFiller) (maxL := 8) (ret := (some .long)) (by decide) rfl ?_
  intro p e s m args below meth c s₁ B hml hv
  obtain ⟨rfl, hP, hK, hE⟩ := hv
  have hx := B.exec
  have hb := B.bytes
  have hr := B.returns
  have hts := atoms_spec (ws := w_Table_bestWithFiller) B.pre
  have hown : s.vm.findClass R_Table = some m.cls := findClass_of_methodNamed B.named
  have hlocks := B.notSynchronized
  have hn_Fillers : ∀ w ∈ u_ws R_Fillers F_Fillers 2, w ∈ w_Table_bestWithFiller := (fun w h => List.mem_cons_of_mem _ (i_Fillers w h))
  have hn_Table : ∀ w ∈ u_ws R_Table F_Table 6, w ∈ w_Table_bestWithFiller := (fun w h => List.mem_cons_of_mem _ (i_Table w h))
  have hL19 := hts (.fieldLink R_Table 19 "RoomFills$Table" "fillers" "LRoomFills$Fillers;") (List.mem_cons_of_mem _ m_193)
  have hL29 := hts (.fieldLink R_Table 29 "RoomFills$Table" "values" "[J") (List.mem_cons_of_mem _ m_195)
  have hL37 := hts (.fieldLink R_Table 37 "RoomFills$Table" "longestFiller" "[I") (List.mem_cons_of_mem _ m_197)
  have hL40 := hts (.constantLong R_Table 40 (-1)) (List.mem_cons_of_mem _ m_349)
  have hL115 := hts (.fieldLink R_Table 115 "RoomFills$Fillers" "least" "I") (List.mem_cons_of_mem _ m_171)
  replace hP : va_P D vwCl [(ad 13, .inr (3, [.int v_fill_least, .int v_fill_most])), (ad 14, .inr (4, [.ref (ad 2), .ref (ad 5), .ref (ad 13), .ref (ad 15), .ref (ad 16), .ref (ad 17)])), (ad 15, .inl (ki 1, n_tval, .inr (.inl v_tval))), (ad 17, .inl (ki 0, n_tlon, .inl v_tlon))] s.heap := hP
  have hl := lv_entry ([.ref (ad 14), .int p1, .int p2]) (n := 8) (Nat.le_of_ble_eq_true rfl)
  rw [lg_entry_eq]
  generalize (lg_sl ([.ref (ad 14), .int p1, .int p2]) ++ List.replicate (8 - (lg_sl ([.ref (ad 14), .int p1, .int p2])).length) Slot.unset).toArray = ls at hl ⊢
  replace hl : lv_has ls 8 [(0, .ref (ad 14)), (1, .int p1), (2, .int p2)] := hl
  have key : ∀ n : Nat, (∀ (x1 : Int32) (x2 : Int32) (x3 : Int64) (x5 : Int32) (x6 : Int32) (x7 : Int32), f_Table_bestWithFiller_cut N n_tval n_tlon v_fill_least v_fill_most v_tval v_tlon n 0 x1 x2 x3 x5 x6 x7 = some r → ∀ (ls : Array Slot), lv_has ls 8 [(0, .ref (ad 14)), (1, .int x1), (2, .int x2), (3, .long x3), (5, .int x5), (6, .int x6), (7, .int x7)] → W p l e (headSpec w_Table_bestWithFiller { frames := 1, cells := 0, slots := 0, locals := 21 }).room s m ([.ref (ad 14), .int p1, .int p2] : List Value).toArray below meth c s.heap [] 0 0 (MQ below (k2_QcV (.long r)) ([.ref (ad 14), .int p1, .int p2] : List Value).toArray s 0 0 (fun _ => False)) (F0 m 39 ls [])) := by
    intro n
    induction n with
    | zero =>
      exact fun x1 x2 x3 x5 x6 x7 hf => (nomatch (show none = some _ from hf))
    | succ n ih =>
      intro x1 x2 x3 x5 x6 x7 hf ls hl
      rw [f_Table_bestWithFiller_cut_0] at hf
      refine lv_iload hx hb d_Table_bestWithFiller_39 (lv_at hl 6 rfl) ?_
      refine lv_iload hx hb d_Table_bestWithFiller_41 (lv_at hl 4 rfl) ?_
      refine lv_icmp_gt (tgt := 78) hx hb d_Table_bestWithFiller_43 (by decide) (fun c_1 => ?_) (fun c_1 => ?_)
      · replace hf := q_it hf c_1
        refine lv_lload_n hx hb d_Table_bestWithFiller_78 rfl (lv_at hl 3 rfl) ?_
        cases hf
        first | exact W.lret (v := x3) hx hb hr (fun t ht hW => ⟨rfl, ht⟩) (fun q h => nomatch h) d_Table_bestWithFiller_79 | exact W.lret (v := r) hx hb hr (fun t ht hW => ⟨rfl, ht⟩) (fun q h => nomatch h) d_Table_bestWithFiller_79
      replace hf := q_ie hf c_1
      refine lv_aload_n hx hb d_Table_bestWithFiller_46 rfl (lv_at hl 0 rfl) ?_
      refine va_get (D := D) (ci := 4) (v := .ref (ad 15)) (C := R_Table) (T := F_Table) (N := 6) hx hb hts hn_Table hown hK hP 1 rfl rfl 3 (by decide) hL29 (fun _ h9 => h9) rfl d_Table_bestWithFiller_47 ?_
      refine lv_iload hx hb d_Table_bestWithFiller_50 (lv_at hl 5 rfl) ?_
      obtain ⟨hi_2, hf⟩ := q_ck hf
      refine va_lald hx hb hK hP 2 1 rfl rfl hi_2 d_Table_bestWithFiller_52 ?_
      refine lv_lload_n hx hb d_Table_bestWithFiller_53 rfl (lv_at hl 3 rfl) ?_
      refine W.lcmp hx hb d_Table_bestWithFiller_54 ?_
      refine lv_if_le (tgt := 66) hx hb d_Table_bestWithFiller_55 (by decide) (fun c_3 => ?_) (fun c_3 => ?_)
      · replace hf := q_it hf c_3
        refine lv_iincW (v := (x6 + 512)) (lv' := [(6, .int (x6 + 512)), (0, .ref (ad 14)), (1, .int x1), (2, .int x2), (3, .long x3), (5, .int x5), (7, .int x7)]) hx hb d_Table_bestWithFiller_66 hl (k := 5) rfl rfl (by decide) rfl (fun ls hl => ?_)
        refine lv_iinc (v := (x7 + 1)) (lv' := [(7, .int (x7 + 1)), (6, .int (x6 + 512)), (0, .ref (ad 14)), (1, .int x1), (2, .int x2), (3, .long x3), (5, .int x5)]) hx hb d_Table_bestWithFiller_72 hl (k := 6) rfl rfl (by decide) rfl (fun ls hl => ?_)
        refine lv_goto (tgt := 39) hx hb d_Table_bestWithFiller_75 (by decide) ?_
        exact (ih) x1 x2 x3 x5 (x6 + 512) (x7 + 1) hf ls (lv_sub hl [2, 3, 4, 5, 6, 1, 0] rfl)
      replace hf := q_ie hf c_3
      refine lv_aload_n hx hb d_Table_bestWithFiller_58 rfl (lv_at hl 0 rfl) ?_
      refine va_get (D := D) (ci := 4) (v := .ref (ad 15)) (C := R_Table) (T := F_Table) (N := 6) hx hb hts hn_Table hown hK hP 1 rfl rfl 3 (by decide) hL29 (fun _ h9 => h9) rfl d_Table_bestWithFiller_59 ?_
      refine lv_iload hx hb d_Table_bestWithFiller_62 (lv_at hl 5 rfl) ?_
      obtain ⟨hi_4, hf⟩ := q_ck hf
      refine va_lald hx hb hK hP 2 1 rfl rfl hi_4 d_Table_bestWithFiller_64 ?_
      refine lv_lstore_n (lv' := [(3, .long (v_tval (Int32.toNatClampNeg x6))), (0, .ref (ad 14)), (1, .int x1), (2, .int x2), (5, .int x5), (6, .int x6), (7, .int x7)]) hx hb d_Table_bestWithFiller_65 rfl hl (by decide) rfl (fun ls hl => ?_)
      refine lv_iincW (v := (x6 + 512)) (lv' := [(6, .int (x6 + 512)), (3, .long (v_tval (Int32.toNatClampNeg x6))), (0, .ref (ad 14)), (1, .int x1), (2, .int x2), (5, .int x5), (7, .int x7)]) hx hb d_Table_bestWithFiller_66 hl (k := 5) rfl rfl (by decide) rfl (fun ls hl => ?_)
      refine lv_iinc (v := (x7 + 1)) (lv' := [(7, .int (x7 + 1)), (6, .int (x6 + 512)), (3, .long (v_tval (Int32.toNatClampNeg x6))), (0, .ref (ad 14)), (1, .int x1), (2, .int x2), (5, .int x5)]) hx hb d_Table_bestWithFiller_72 hl (k := 6) rfl rfl (by decide) rfl (fun ls hl => ?_)
      refine lv_goto (tgt := 39) hx hb d_Table_bestWithFiller_75 (by decide) ?_
      exact (ih) x1 x2 (v_tval (Int32.toNatClampNeg x6)) x5 (x6 + 512) (x7 + 1) hf ls (lv_sub hl [3, 4, 5, 2, 6, 1, 0] rfl)
  unfold f_Table_bestWithFiller at hf
  refine lv_ldc2 (v := (-1)) hx hb hown hL40 d_Table_bestWithFiller_0 ?_
  refine lv_lstore_n (lv' := [(3, .long (-1)), (0, .ref (ad 14)), (1, .int p1), (2, .int p2)]) hx hb d_Table_bestWithFiller_3 rfl hl (by decide) rfl (fun ls hl => ?_)
  refine lv_aload_n hx hb d_Table_bestWithFiller_4 rfl (lv_at hl 1 rfl) ?_
  refine va_get (D := D) (ci := 4) (v := .ref (ad 17)) (C := R_Table) (T := F_Table) (N := 6) hx hb hts hn_Table hown hK hP 1 rfl rfl 5 (by decide) hL37 (fun _ h9 => h9) rfl d_Table_bestWithFiller_5 ?_
  refine lv_iload_n hx hb d_Table_bestWithFiller_8 rfl (lv_at hl 2 rfl) ?_
  obtain ⟨hi_5, hf⟩ := q_ck hf
  refine va_iald hx hb hK hP 3 0 rfl rfl hi_5 d_Table_bestWithFiller_9 ?_
  refine lv_istore (lv' := [(5, .int (v_tlon (Int32.toNatClampNeg p1))), (3, .long (-1)), (0, .ref (ad 14)), (1, .int p1), (2, .int p2)]) hx hb d_Table_bestWithFiller_10 hl (by decide) rfl (fun ls hl => ?_)
  refine lv_iload_n hx hb d_Table_bestWithFiller_12 rfl (lv_at hl 3 rfl) ?_
  refine lv_aload_n hx hb d_Table_bestWithFiller_13 rfl (lv_at hl 2 rfl) ?_
  refine va_get (D := D) (ci := 4) (v := .ref (ad 13)) (C := R_Table) (T := F_Table) (N := 6) hx hb hts hn_Table hown hK hP 1 rfl rfl 2 (by decide) hL19 (fun _ h9 => h9) rfl d_Table_bestWithFiller_14 ?_
  refine va_get (D := D) (ci := 3) (v := .int v_fill_least) (C := R_Fillers) (T := F_Fillers) (N := 2) hx hb hts hn_Fillers hown hK hP 0 rfl rfl 0 (by decide) hL115 (fun _ h9 => h9) rfl d_Table_bestWithFiller_17 ?_
  refine lv_iadd hx hb d_Table_bestWithFiller_20 ?_
  refine lv_iload_n hx hb d_Table_bestWithFiller_21 rfl (lv_at hl 4 rfl) ?_
  obtain ⟨r_6, hc_6, hf⟩ := q_mb hf
  refine q_pcall (W.runS (As := [.int (p1 + v_fill_least), .int p2]) (rest := []) ⟨hx, hb, hml, hown, hts⟩ (c_Table_cell l D ad ki (p1 + v_fill_least) p2 N r_6 hc_6) (va_cwS 2 hts (q_goodS ⟨m_353, m_354, m_60⟩ m_355) rfl rfl rfl (by decide +kernel) ⟨Nat.le_of_ble_eq_true rfl, Nat.le_of_ble_eq_true rfl⟩) (q_preSP (wc := []) hE hK hP [] rfl) rfl rfl hl.1 rfl (lv_room (Nat.le_of_ble_eq_true rfl)) d_Table_bestWithFiller_22 ⟨Nat.le_of_ble_eq_true rfl, Nat.le_of_ble_eq_true rfl⟩) ?_
  refine lv_bipush (v := 6) hx hb d_Table_bestWithFiller_25 (by decide) ?_
  refine lv_iadd hx hb d_Table_bestWithFiller_27 ?_
  refine lv_istore (lv' := [(6, .int (r_6 + 6)), (5, .int (v_tlon (Int32.toNatClampNeg p1))), (3, .long (-1)), (0, .ref (ad 14)), (1, .int p1), (2, .int p2)]) hx hb d_Table_bestWithFiller_28 hl (by decide) rfl (fun ls hl => ?_)
  refine lv_aload_n hx hb d_Table_bestWithFiller_30 rfl (lv_at hl 3 rfl) ?_
  refine va_get (D := D) (ci := 4) (v := .ref (ad 13)) (C := R_Table) (T := F_Table) (N := 6) hx hb hts hn_Table hown hK hP 1 rfl rfl 2 (by decide) hL19 (fun _ h9 => h9) rfl d_Table_bestWithFiller_31 ?_
  refine va_get (D := D) (ci := 3) (v := .int v_fill_least) (C := R_Fillers) (T := F_Fillers) (N := 2) hx hb hts hn_Fillers hown hK hP 0 rfl rfl 0 (by decide) hL115 (fun _ h9 => h9) rfl d_Table_bestWithFiller_34 ?_
  refine lv_istore (lv' := [(7, .int v_fill_least), (6, .int (r_6 + 6)), (5, .int (v_tlon (Int32.toNatClampNeg p1))), (3, .long (-1)), (0, .ref (ad 14)), (1, .int p1), (2, .int p2)]) hx hb d_Table_bestWithFiller_37 hl (by decide) rfl (fun ls hl => ?_)
  exact (key N) p1 p2 (-1) (v_tlon (Int32.toNatClampNeg p1)) (r_6 + 6) v_fill_least hf ls (lv_sub hl [4, 5, 6, 3, 2, 1, 0] rfl)
def f_Table_offerItem_cut (N : Nat) (n_ibar : Nat) (n_inea : Nat) (n_tval : Nat) (v_items_mustSet : Int32) (v_items_count : Int32) (v_ibar : Nat → Int32) (v_inea : Nat → Int64) : Nat → Nat → Int32 → Int32 → Int64 → Int32 → Int32 → (Nat → Int64) → Option ((Nat → Int64))
  | 0, _, _, _, _, _, _, _ => none
  | n + 1, t, x1, x2, x3, x5, x6, v_tval => (if (8 : Int32) ≤ x6 then (some v_tval) else (if ((x2 * 8) + x6) < 0 ∨ n_inea ≤ Int32.toNatClampNeg ((x2 * 8) + x6) then none else (if (x1 + x6) < 0 ∨ n_tval ≤ Int32.toNatClampNeg (x1 + x6) then none else (if (lg_cmp (x3 + (v_inea (Int32.toNatClampNeg ((x2 * 8) + x6)))) (v_tval (Int32.toNatClampNeg (x1 + x6)))) ≤ 0 then (f_Table_offerItem_cut N n_ibar n_inea n_tval v_items_mustSet v_items_count v_ibar v_inea n 0 x1 x2 x3 x5 (x6 + 1) v_tval) else (Option.bind (f_RoomFills_hasItem N x5 x6) (fun r_5 => (if r_5 = true then (f_Table_offerItem_cut N n_ibar n_inea n_tval v_items_mustSet v_items_count v_ibar v_inea n 0 x1 x2 x3 x5 (x6 + 1) v_tval) else (if (x1 + x6) < 0 ∨ n_tval ≤ Int32.toNatClampNeg (x1 + x6) then none else (f_Table_offerItem_cut N n_ibar n_inea n_tval v_items_mustSet v_items_count v_ibar v_inea n 0 x1 x2 x3 x5 (x6 + 1) (vp_updL v_tval (Int32.toNatClampNeg (x1 + x6)) (x3 + (v_inea (Int32.toNatClampNeg ((x2 * 8) + x6))))))))))))))
theorem f_Table_offerItem_cut_0 (N : Nat) (n_ibar : Nat) (n_inea : Nat) (n_tval : Nat) (v_items_mustSet : Int32) (v_items_count : Int32) (v_ibar : Nat → Int32) (v_inea : Nat → Int64) (n : Nat) (x1 : Int32) (x2 : Int32) (x3 : Int64) (x5 : Int32) (x6 : Int32) (v_tval : Nat → Int64) : f_Table_offerItem_cut N n_ibar n_inea n_tval v_items_mustSet v_items_count v_ibar v_inea (n + 1) 0 x1 x2 x3 x5 x6 v_tval = (if (8 : Int32) ≤ x6 then (some v_tval) else (if ((x2 * 8) + x6) < 0 ∨ n_inea ≤ Int32.toNatClampNeg ((x2 * 8) + x6) then none else (if (x1 + x6) < 0 ∨ n_tval ≤ Int32.toNatClampNeg (x1 + x6) then none else (if (lg_cmp (x3 + (v_inea (Int32.toNatClampNeg ((x2 * 8) + x6)))) (v_tval (Int32.toNatClampNeg (x1 + x6)))) ≤ 0 then (f_Table_offerItem_cut N n_ibar n_inea n_tval v_items_mustSet v_items_count v_ibar v_inea n 0 x1 x2 x3 x5 (x6 + 1) v_tval) else (Option.bind (f_RoomFills_hasItem N x5 x6) (fun r_5 => (if r_5 = true then (f_Table_offerItem_cut N n_ibar n_inea n_tval v_items_mustSet v_items_count v_ibar v_inea n 0 x1 x2 x3 x5 (x6 + 1) v_tval) else (if (x1 + x6) < 0 ∨ n_tval ≤ Int32.toNatClampNeg (x1 + x6) then none else (f_Table_offerItem_cut N n_ibar n_inea n_tval v_items_mustSet v_items_count v_ibar v_inea n 0 x1 x2 x3 x5 (x6 + 1) (vp_updL v_tval (Int32.toNatClampNeg (x1 + x6)) (x3 + (v_inea (Int32.toNatClampNeg ((x2 * 8) + x6)))))))))))))) := rfl
def f_Table_offerItem (N : Nat) (n_ibar : Nat) (n_inea : Nat) (n_tval : Nat) (v_items_mustSet : Int32) (v_items_count : Int32) (v_ibar : Nat → Int32) (v_inea : Nat → Int64) (v_tval : Nat → Int64) (p1 : Int32) (p2 : Int32) (p3 : Int64) : Option ((Nat → Int64)) := (if (lg_cmp p3 (-1)) = 0 then (some v_tval) else (if p2 < 0 ∨ n_ibar ≤ Int32.toNatClampNeg p2 then none else (f_Table_offerItem_cut N n_ibar n_inea n_tval v_items_mustSet v_items_count v_ibar v_inea N 0 p1 p2 p3 (v_ibar (Int32.toNatClampNeg p2)) 0 v_tval)))
set_option maxRecDepth 100000 in
set_option maxHeartbeats 4000000 in
theorem c_Table_offerItem (l : Launch) (D : va_G) (ad : Nat → Nat) (ki : Nat → ClassId) (n_ibar : Nat) (n_inea : Nat) (n_tval : Nat) (v_items_mustSet : Int32) (v_items_count : Int32) (v_ibar : Nat → Int32) (v_inea : Nat → Int64) (v_tval : Nat → Int64) (p1 : Int32) (p2 : Int32) (p3 : Int64) (N : Nat) (sz : Nat) (ov_tval : Nat → Int64) (hf : f_Table_offerItem N n_ibar n_inea n_tval v_items_mustSet v_items_count v_ibar v_inea v_tval p1 p2 p3 = some ov_tval) : Met l y_Table_offerItem w_Table_offerItem { frames := 1, cells := 0, slots := 0, locals := 21 } (q_PcM [.ref (ad 14), .int p1, .int p2, .long p3] D vwCl [(ad 5, .inr (2, [.ref (ad 6), .ref (ad 7), .ref (ad 8), .ref (ad 9), .ref (ad 10), .ref (ad 11), .ref (ad 12), .int v_items_mustSet, .int v_items_count])), (ad 8, .inl (ki 0, n_ibar, .inl v_ibar)), (ad 9, .inl (ki 1, n_inea, .inr (.inl v_inea))), (ad 14, .inr (4, [.ref (ad 2), .ref (ad 5), .ref (ad 13), .ref (ad 15), .ref (ad 16), .ref (ad 17)])), (ad 15, .inl (ki 1, n_tval, .inr (.inl v_tval)))] (TYS ki) sz) (q_Qm (none) D vwCl [(ad 5, .inr (2, [.ref (ad 6), .ref (ad 7), .ref (ad 8), .ref (ad 9), .ref (ad 10), .ref (ad 11), .ref (ad 12), .int v_items_mustSet, .int v_items_count])), (ad 8, .inl (ki 0, n_ibar, .inl v_ibar)), (ad 9, .inl (ki 1, n_inea, .inr (.inl v_inea))), (ad 14, .inr (4, [.ref (ad 2), .ref (ad 5), .ref (ad 13), .ref (ad 15), .ref (ad 16), .ref (ad 17)])), (ad 15, .inl (ki 1, n_tval, .inr (.inl ov_tval)))] (va_A [(ad 5, .inr (2, [.ref (ad 6), .ref (ad 7), .ref (ad 8), .ref (ad 9), .ref (ad 10), .ref (ad 11), .ref (ad 12), .int v_items_mustSet, .int v_items_count])), (ad 8, .inl (ki 0, n_ibar, .inl v_ibar)), (ad 9, .inl (ki 1, n_inea, .inr (.inl v_inea))), (ad 14, .inr (4, [.ref (ad 2), .ref (ad 5), .ref (ad 13), .ref (ad 15), .ref (ad 16), .ref (ad 17)])), (ad 15, .inl (ki 1, n_tval, .inr (.inl v_tval)))] sz)) 0 0 (va_A [(ad 5, .inr (2, [.ref (ad 6), .ref (ad 7), .ref (ad 8), .ref (ad 9), .ref (ad 10), .ref (ad 11), .ref (ad 12), .int v_items_mustSet, .int v_items_count])), (ad 8, .inl (ki 0, n_ibar, .inl v_ibar)), (ad 9, .inl (ki 1, n_inea, .inr (.inl v_inea))), (ad 14, .inr (4, [.ref (ad 2), .ref (ad 5), .ref (ad 13), .ref (ad 15), .ref (ad 16), .ref (ad 17)])), (ad 15, .inl (ki 1, n_tval, .inr (.inl v_tval)))] sz) := by
  refine Met.ofW (cc := b_Table_offerItem) (maxL := 9) (ret := none) (by decide) rfl ?_
  intro p e s m args below meth c s₁ B hml hv
  obtain ⟨rfl, hsz, hP, hK, hD0, hE⟩ := hv
  have hx := B.exec
  have hb := B.bytes
  have hr := B.returns
  have hts := atoms_spec (ws := w_Table_offerItem) B.pre
  have hown : s.vm.findClass R_Table = some m.cls := findClass_of_methodNamed B.named
  have hlocks := B.notSynchronized
  have hn_Items : ∀ w ∈ u_ws R_Items F_Items 9, w ∈ w_Table_offerItem := (fun w h => List.mem_cons_of_mem _ (i_Items w h))
  have hn_Table : ∀ w ∈ u_ws R_Table F_Table 6, w ∈ w_Table_offerItem := (fun w h => List.mem_cons_of_mem _ (i_Table w h))
  have hL15 := hts (.fieldLink R_Table 15 "RoomFills$Table" "items" "LRoomFills$Items;") (List.mem_cons_of_mem _ m_192)
  have hL29 := hts (.fieldLink R_Table 29 "RoomFills$Table" "values" "[J") (List.mem_cons_of_mem _ m_195)
  have hL40 := hts (.constantLong R_Table 40 (-1)) (List.mem_cons_of_mem _ m_349)
  have hL118 := hts (.fieldLink R_Table 118 "RoomFills$Items" "barredSet" "[I") (List.mem_cons_of_mem _ m_125)
  have hL121 := hts (.fieldLink R_Table 121 "RoomFills$Items" "nearWorth" "[J") (List.mem_cons_of_mem _ m_127)
  subst hsz
  have hD := hD0.self (sz := s.heap.size)
  generalize hAe : va_A [(ad 5, .inr (2, [.ref (ad 6), .ref (ad 7), .ref (ad 8), .ref (ad 9), .ref (ad 10), .ref (ad 11), .ref (ad 12), .int v_items_mustSet, .int v_items_count])), (ad 8, .inl (ki 0, n_ibar, .inl v_ibar)), (ad 9, .inl (ki 1, n_inea, .inr (.inl v_inea))), (ad 14, .inr (4, [.ref (ad 2), .ref (ad 5), .ref (ad 13), .ref (ad 15), .ref (ad 16), .ref (ad 17)])), (ad 15, .inl (ki 1, n_tval, .inr (.inl v_tval)))] s.heap.size = A at hD ⊢
  have hA : ∀ q : Nat, s.heap.size ≤ q → A q := fun q h => by rw [← hAe]; exact Or.inr h
  have hS : va_S A s.heap s.heap [] := va_S.rf
  replace hP : va_P D vwCl [(ad 5, .inr (2, [.ref (ad 6), .ref (ad 7), .ref (ad 8), .ref (ad 9), .ref (ad 10), .ref (ad 11), .ref (ad 12), .int v_items_mustSet, .int v_items_count])), (ad 8, .inl (ki 0, n_ibar, .inl v_ibar)), (ad 9, .inl (ki 1, n_inea, .inr (.inl v_inea))), (ad 14, .inr (4, [.ref (ad 2), .ref (ad 5), .ref (ad 13), .ref (ad 15), .ref (ad 16), .ref (ad 17)])), (ad 15, .inl (ki 1, n_tval, .inr (.inl v_tval)))] s.heap := hP
  have hl := lv_entry ([.ref (ad 14), .int p1, .int p2, .long p3]) (n := 9) (Nat.le_of_ble_eq_true rfl)
  rw [lg_entry_eq]
  generalize (lg_sl ([.ref (ad 14), .int p1, .int p2, .long p3]) ++ List.replicate (9 - (lg_sl ([.ref (ad 14), .int p1, .int p2, .long p3])).length) Slot.unset).toArray = ls at hl ⊢
  replace hl : lv_has ls 9 [(0, .ref (ad 14)), (1, .int p1), (2, .int p2), (3, .long p3)] := hl
  have key : ∀ n : Nat, (∀ (x1 : Int32) (x2 : Int32) (x3 : Int64) (x5 : Int32) (x6 : Int32) (v_tval : Nat → Int64), f_Table_offerItem_cut N n_ibar n_inea n_tval v_items_mustSet v_items_count v_ibar v_inea n 0 x1 x2 x3 x5 x6 v_tval = some ov_tval → ∀ (H : Heap) (locs : List Loc), va_P D vwCl [(ad 5, .inr (2, [.ref (ad 6), .ref (ad 7), .ref (ad 8), .ref (ad 9), .ref (ad 10), .ref (ad 11), .ref (ad 12), .int v_items_mustSet, .int v_items_count])), (ad 8, .inl (ki 0, n_ibar, .inl v_ibar)), (ad 9, .inl (ki 1, n_inea, .inr (.inl v_inea))), (ad 14, .inr (4, [.ref (ad 2), .ref (ad 5), .ref (ad 13), .ref (ad 15), .ref (ad 16), .ref (ad 17)])), (ad 15, .inl (ki 1, n_tval, .inr (.inl v_tval)))] H → va_D A [(ad 5, .inr (2, [.ref (ad 6), .ref (ad 7), .ref (ad 8), .ref (ad 9), .ref (ad 10), .ref (ad 11), .ref (ad 12), .int v_items_mustSet, .int v_items_count])), (ad 8, .inl (ki 0, n_ibar, .inl v_ibar)), (ad 9, .inl (ki 1, n_inea, .inr (.inl v_inea))), (ad 14, .inr (4, [.ref (ad 2), .ref (ad 5), .ref (ad 13), .ref (ad 15), .ref (ad 16), .ref (ad 17)])), (ad 15, .inl (ki 1, n_tval, .inr (.inl v_tval)))] → va_S A s.heap H locs → ∀ (ls : Array Slot), lv_has ls 9 [(0, .ref (ad 14)), (1, .int x1), (2, .int x2), (3, .long x3), (5, .int x5), (6, .int x6)] → W p l e (headSpec w_Table_offerItem { frames := 1, cells := 0, slots := 0, locals := 21 }).room s m ([.ref (ad 14), .int p1, .int p2, .long p3] : List Value).toArray below meth c H locs 0 0 (MQ below (q_Qm (none) D vwCl [(ad 5, .inr (2, [.ref (ad 6), .ref (ad 7), .ref (ad 8), .ref (ad 9), .ref (ad 10), .ref (ad 11), .ref (ad 12), .int v_items_mustSet, .int v_items_count])), (ad 8, .inl (ki 0, n_ibar, .inl v_ibar)), (ad 9, .inl (ki 1, n_inea, .inr (.inl v_inea))), (ad 14, .inr (4, [.ref (ad 2), .ref (ad 5), .ref (ad 13), .ref (ad 15), .ref (ad 16), .ref (ad 17)])), (ad 15, .inl (ki 1, n_tval, .inr (.inl ov_tval)))] A) ([.ref (ad 14), .int p1, .int p2, .long p3] : List Value).toArray s 0 0 A) (F0 m 23 ls [])) := by
    intro n
    induction n with
    | zero =>
      exact fun x1 x2 x3 x5 x6 v_tval hf => (nomatch (show none = some _ from hf))
    | succ n ih =>
      intro x1 x2 x3 x5 x6 v_tval hf H locs hP hD hS ls hl
      rw [f_Table_offerItem_cut_0] at hf
      refine lv_iload hx hb d_Table_offerItem_23 (lv_at hl 5 rfl) ?_
      refine lv_bipush (v := 8) hx hb d_Table_offerItem_25 (by decide) ?_
      refine lv_icmp_ge (tgt := 91) hx hb d_Table_offerItem_27 (by decide) (fun c_1 => ?_) (fun c_1 => ?_)
      · replace hf := q_it hf c_1
        cases hf
        exact W.vret hx hb hr (fun t ht hW => ⟨rfl, by rw [ht]; exact hP, hS.F ht⟩) hS.2.2 d_Table_offerItem_91
      replace hf := q_ie hf c_1
      refine lv_lload_n hx hb d_Table_offerItem_30 rfl (lv_at hl 3 rfl) ?_
      refine lv_aload_n hx hb d_Table_offerItem_31 rfl (lv_at hl 0 rfl) ?_
      refine va_get (D := D) (ci := 4) (v := .ref (ad 5)) (C := R_Table) (T := F_Table) (N := 6) hx hb hts hn_Table hown hK hP 3 rfl rfl 1 (by decide) hL15 (fun _ h9 => h9) rfl d_Table_offerItem_32 ?_
      refine va_get (D := D) (ci := 2) (v := .ref (ad 9)) (C := R_Items) (T := F_Items) (N := 9) hx hb hts hn_Items hown hK hP 0 rfl rfl 3 (by decide) hL121 (fun _ h9 => h9) rfl d_Table_offerItem_35 ?_
      refine lv_iload_n hx hb d_Table_offerItem_38 rfl (lv_at hl 2 rfl) ?_
      refine lv_bipush (v := 8) hx hb d_Table_offerItem_39 (by decide) ?_
      refine lv_imul hx hb d_Table_offerItem_41 ?_
      refine lv_iload hx hb d_Table_offerItem_42 (lv_at hl 5 rfl) ?_
      refine lv_iadd hx hb d_Table_offerItem_44 ?_
      obtain ⟨hi_2, hf⟩ := q_ck hf
      refine va_lald hx hb hK hP 2 1 rfl rfl hi_2 d_Table_offerItem_45 ?_
      refine lv_ladd hx hb d_Table_offerItem_46 ?_
      refine lv_lstore (lv' := [(7, .long (x3 + (v_inea (Int32.toNatClampNeg ((x2 * 8) + x6))))), (0, .ref (ad 14)), (1, .int x1), (2, .int x2), (3, .long x3), (5, .int x5), (6, .int x6)]) hx hb d_Table_offerItem_47 hl (by decide) rfl (fun ls hl => ?_)
      refine lv_lload hx hb d_Table_offerItem_49 (lv_at hl 0 rfl) ?_
      refine lv_aload_n hx hb d_Table_offerItem_51 rfl (lv_at hl 1 rfl) ?_
      refine va_get (D := D) (ci := 4) (v := .ref (ad 15)) (C := R_Table) (T := F_Table) (N := 6) hx hb hts hn_Table hown hK hP 3 rfl rfl 3 (by decide) hL29 (fun _ h9 => h9) rfl d_Table_offerItem_52 ?_
      refine lv_iload_n hx hb d_Table_offerItem_55 rfl (lv_at hl 2 rfl) ?_
      refine lv_iload hx hb d_Table_offerItem_56 (lv_at hl 6 rfl) ?_
      refine lv_iadd hx hb d_Table_offerItem_58 ?_
      obtain ⟨hi_3, hf⟩ := q_ck hf
      refine va_lald hx hb hK hP 4 1 rfl rfl hi_3 d_Table_offerItem_59 ?_
      refine W.lcmp hx hb d_Table_offerItem_60 ?_
      refine lv_if_le (tgt := 85) hx hb d_Table_offerItem_61 (by decide) (fun c_4 => ?_) (fun c_4 => ?_)
      · replace hf := q_it hf c_4
        refine lv_iinc (v := (x6 + 1)) (lv' := [(6, .int (x6 + 1)), (7, .long (x3 + (v_inea (Int32.toNatClampNeg ((x2 * 8) + x6))))), (0, .ref (ad 14)), (1, .int x1), (2, .int x2), (3, .long x3), (5, .int x5)]) hx hb d_Table_offerItem_85 hl (k := 6) rfl rfl (by decide) rfl (fun ls hl => ?_)
        refine lv_goto (tgt := 23) hx hb d_Table_offerItem_88 (by decide) ?_
        exact (ih) x1 x2 x3 x5 (x6 + 1) v_tval hf _ _ hP hD hS ls (lv_sub hl [2, 3, 4, 5, 6, 0] rfl)
      replace hf := q_ie hf c_4
      refine lv_iload hx hb d_Table_offerItem_64 (lv_at hl 5 rfl) ?_
      refine lv_iload hx hb d_Table_offerItem_66 (lv_at hl 6 rfl) ?_
      obtain ⟨r_5, hc_5, hf⟩ := q_mb hf
      refine q_pcall (va_Run.run (va_runSN (As := [.int x5, .int x6]) (rest := []) ⟨hx, hb, hml, hown, hts⟩ (c_RoomFills_hasItem l D ad ki x5 x6 N r_5 hc_5) ⟨va_cnB (host := R_RoomFills) 2 hts (q_goodI m_395) rfl rfl rfl (hE.1 (.methodLinkNest R_Table 107 y_RoomFills_hasItem R_RoomFills) (by decide +kernel)) (hts (.initialized R_RoomFills) (List.mem_cons_of_mem _ m_54)) (by decide +kernel) ⟨Nat.le_of_ble_eq_true rfl, Nat.le_of_ble_eq_true rfl⟩, hts (.static y_RoomFills_hasItem) (List.mem_cons_of_mem _ m_394), trivial⟩ (q_preSP (wc := []) hE hK hP [] rfl) rfl rfl hl.1 rfl (lv_room (Nat.le_of_ble_eq_true rfl)) d_Table_offerItem_68 ⟨Nat.le_of_ble_eq_true rfl, Nat.le_of_ble_eq_true rfl⟩)) ?_
      refine zv_ne (tgt := 85) hx hb d_Table_offerItem_71 (by decide) (fun c_6 => ?_) (fun c_6 => ?_)
      · replace hf := q_it hf c_6
        refine lv_iinc (v := (x6 + 1)) (lv' := [(6, .int (x6 + 1)), (7, .long (x3 + (v_inea (Int32.toNatClampNeg ((x2 * 8) + x6))))), (0, .ref (ad 14)), (1, .int x1), (2, .int x2), (3, .long x3), (5, .int x5)]) hx hb d_Table_offerItem_85 hl (k := 6) rfl rfl (by decide) rfl (fun ls hl => ?_)
        refine lv_goto (tgt := 23) hx hb d_Table_offerItem_88 (by decide) ?_
        exact (ih) x1 x2 x3 x5 (x6 + 1) v_tval hf _ _ hP hD hS ls (lv_sub hl [2, 3, 4, 5, 6, 0] rfl)
      replace hf := q_ie hf c_6
      refine lv_aload_n hx hb d_Table_offerItem_74 rfl (lv_at hl 1 rfl) ?_
      refine va_get (D := D) (ci := 4) (v := .ref (ad 15)) (C := R_Table) (T := F_Table) (N := 6) hx hb hts hn_Table hown hK hP 3 rfl rfl 3 (by decide) hL29 (fun _ h9 => h9) rfl d_Table_offerItem_75 ?_
      refine lv_iload_n hx hb d_Table_offerItem_78 rfl (lv_at hl 2 rfl) ?_
      refine lv_iload hx hb d_Table_offerItem_79 (lv_at hl 6 rfl) ?_
      refine lv_iadd hx hb d_Table_offerItem_81 ?_
      refine lv_lload hx hb d_Table_offerItem_82 (lv_at hl 0 rfl) ?_
      obtain ⟨hi_7, hf⟩ := q_ck hf
      refine va_last hx hb hK hP hD hS 4 1 rfl rfl hi_7 d_Table_offerItem_84 (fun H locs hP hD hS => ?_)
      replace hP : va_P D vwCl [(ad 5, .inr (2, [.ref (ad 6), .ref (ad 7), .ref (ad 8), .ref (ad 9), .ref (ad 10), .ref (ad 11), .ref (ad 12), .int v_items_mustSet, .int v_items_count])), (ad 8, .inl (ki 0, n_ibar, .inl v_ibar)), (ad 9, .inl (ki 1, n_inea, .inr (.inl v_inea))), (ad 14, .inr (4, [.ref (ad 2), .ref (ad 5), .ref (ad 13), .ref (ad 15), .ref (ad 16), .ref (ad 17)])), (ad 15, .inl (ki 1, n_tval, .inr (.inl (vp_updL v_tval (Int32.toNatClampNeg (x1 + x6)) (x3 + (v_inea (Int32.toNatClampNeg ((x2 * 8) + x6))))))))] H := hP
      replace hD : va_D A [(ad 5, .inr (2, [.ref (ad 6), .ref (ad 7), .ref (ad 8), .ref (ad 9), .ref (ad 10), .ref (ad 11), .ref (ad 12), .int v_items_mustSet, .int v_items_count])), (ad 8, .inl (ki 0, n_ibar, .inl v_ibar)), (ad 9, .inl (ki 1, n_inea, .inr (.inl v_inea))), (ad 14, .inr (4, [.ref (ad 2), .ref (ad 5), .ref (ad 13), .ref (ad 15), .ref (ad 16), .ref (ad 17)])), (ad 15, .inl (ki 1, n_tval, .inr (.inl (vp_updL v_tval (Int32.toNatClampNeg (x1 + x6)) (x3 + (v_inea (Int32.toNatClampNeg ((x2 * 8) + x6))))))))] := hD
      refine lv_iinc (v := (x6 + 1)) (lv' := [(6, .int (x6 + 1)), (7, .long (x3 + (v_inea (Int32.toNatClampNeg ((x2 * 8) + x6))))), (0, .ref (ad 14)), (1, .int x1), (2, .int x2), (3, .long x3), (5, .int x5)]) hx hb d_Table_offerItem_85 hl (k := 6) rfl rfl (by decide) rfl (fun ls hl => ?_)
      refine lv_goto (tgt := 23) hx hb d_Table_offerItem_88 (by decide) ?_
      exact (ih) x1 x2 x3 x5 (x6 + 1) (vp_updL v_tval (Int32.toNatClampNeg (x1 + x6)) (x3 + (v_inea (Int32.toNatClampNeg ((x2 * 8) + x6))))) hf _ _ hP hD hS ls (lv_sub hl [2, 3, 4, 5, 6, 0] rfl)
  unfold f_Table_offerItem at hf
  refine lv_lload_n hx hb d_Table_offerItem_0 rfl (lv_at hl 3 rfl) ?_
  refine lv_ldc2 (v := (-1)) hx hb hown hL40 d_Table_offerItem_1 ?_
  refine W.lcmp hx hb d_Table_offerItem_4 ?_
  refine lv_if_ne (tgt := 9) hx hb d_Table_offerItem_5 (by decide) (fun c_8 => ?_) (fun c_8 => ?_)
  · replace hf := q_ie hf c_8
    refine lv_aload_n hx hb d_Table_offerItem_9 rfl (lv_at hl 0 rfl) ?_
    refine va_get (D := D) (ci := 4) (v := .ref (ad 5)) (C := R_Table) (T := F_Table) (N := 6) hx hb hts hn_Table hown hK hP 3 rfl rfl 1 (by decide) hL15 (fun _ h9 => h9) rfl d_Table_offerItem_10 ?_
    refine va_get (D := D) (ci := 2) (v := .ref (ad 8)) (C := R_Items) (T := F_Items) (N := 9) hx hb hts hn_Items hown hK hP 0 rfl rfl 2 (by decide) hL118 (fun _ h9 => h9) rfl d_Table_offerItem_13 ?_
    refine lv_iload_n hx hb d_Table_offerItem_16 rfl (lv_at hl 2 rfl) ?_
    obtain ⟨hi_9, hf⟩ := q_ck hf
    refine va_iald hx hb hK hP 1 0 rfl rfl hi_9 d_Table_offerItem_17 ?_
    refine lv_istore (lv' := [(5, .int (v_ibar (Int32.toNatClampNeg p2))), (0, .ref (ad 14)), (1, .int p1), (2, .int p2), (3, .long p3)]) hx hb d_Table_offerItem_18 hl (by decide) rfl (fun ls hl => ?_)
    refine lv_iconst (v := 0) hx hb d_Table_offerItem_20 (by decide) ?_
    refine lv_istore (lv' := [(6, .int 0), (5, .int (v_ibar (Int32.toNatClampNeg p2))), (0, .ref (ad 14)), (1, .int p1), (2, .int p2), (3, .long p3)]) hx hb d_Table_offerItem_21 hl (by decide) rfl (fun ls hl => ?_)
    exact (key N) p1 p2 p3 (v_ibar (Int32.toNatClampNeg p2)) 0 v_tval hf _ _ hP hD hS ls (lv_sub hl [2, 3, 4, 5, 1, 0] rfl)
  replace hf := q_it hf c_8
  cases hf
  exact W.vret hx hb hr (fun t ht hW => ⟨rfl, by rw [ht]; exact hP, hS.F ht⟩) hS.2.2 d_Table_offerItem_8
def f_Table_valueOf (N : Nat) (n_tval : Nat) (v_tval : Nat → Int64) (p1 : Int32) (p2 : Int32) (p3 : Int32) : Option (Int64) := (if ((((p1 * 64) + p2) * 8) + p3) < 0 ∨ n_tval ≤ Int32.toNatClampNeg ((((p1 * 64) + p2) * 8) + p3) then none else (some (v_tval (Int32.toNatClampNeg ((((p1 * 64) + p2) * 8) + p3)))))
set_option maxRecDepth 100000 in
set_option maxHeartbeats 4000000 in
theorem c_Table_valueOf (l : Launch) (D : va_G) (ad : Nat → Nat) (ki : Nat → ClassId) (n_tval : Nat) (v_tval : Nat → Int64) (p1 : Int32) (p2 : Int32) (p3 : Int32) (N : Nat) (r : Int64) (hf : f_Table_valueOf N n_tval v_tval p1 p2 p3 = some r) : Met l y_Table_valueOf w_Table_valueOf { frames := 0, cells := 0, slots := 0, locals := 0 } (q_PcP [.ref (ad 14), .int p1, .int p2, .int p3] D vwCl [(ad 14, .inr (4, [.ref (ad 2), .ref (ad 5), .ref (ad 13), .ref (ad 15), .ref (ad 16), .ref (ad 17)])), (ad 15, .inl (ki 1, n_tval, .inr (.inl v_tval)))] (TYS ki)) (k2_QcV (.long r)) 0 0 (fun _ => False) := by
  refine Met.ofW (cc := b_Table_valueOf) (maxL := 4) (ret := (some .long)) (by decide) rfl ?_
  intro p e s m args below meth c s₁ B hml hv
  obtain ⟨rfl, hP, hK, hE⟩ := hv
  have hx := B.exec
  have hb := B.bytes
  have hr := B.returns
  have hts := atoms_spec (ws := w_Table_valueOf) B.pre
  have hown : s.vm.findClass R_Table = some m.cls := findClass_of_methodNamed B.named
  have hlocks := B.notSynchronized
  have hn_Table : ∀ w ∈ u_ws R_Table F_Table 6, w ∈ w_Table_valueOf := (fun w h => List.mem_cons_of_mem _ (i_Table w h))
  have hL29 := hts (.fieldLink R_Table 29 "RoomFills$Table" "values" "[J") (List.mem_cons_of_mem _ m_195)
  replace hP : va_P D vwCl [(ad 14, .inr (4, [.ref (ad 2), .ref (ad 5), .ref (ad 13), .ref (ad 15), .ref (ad 16), .ref (ad 17)])), (ad 15, .inl (ki 1, n_tval, .inr (.inl v_tval)))] s.heap := hP
  have hl := lv_entry ([.ref (ad 14), .int p1, .int p2, .int p3]) (n := 4) (Nat.le_of_ble_eq_true rfl)
  rw [lg_entry_eq]
  generalize (lg_sl ([.ref (ad 14), .int p1, .int p2, .int p3]) ++ List.replicate (4 - (lg_sl ([.ref (ad 14), .int p1, .int p2, .int p3])).length) Slot.unset).toArray = ls at hl ⊢
  replace hl : lv_has ls 4 [(0, .ref (ad 14)), (1, .int p1), (2, .int p2), (3, .int p3)] := hl
  unfold f_Table_valueOf at hf
  refine lv_aload_n hx hb d_Table_valueOf_0 rfl (lv_at hl 0 rfl) ?_
  refine va_get (D := D) (ci := 4) (v := .ref (ad 15)) (C := R_Table) (T := F_Table) (N := 6) hx hb hts hn_Table hown hK hP 0 rfl rfl 3 (by decide) hL29 (fun _ h9 => h9) rfl d_Table_valueOf_1 ?_
  refine lv_iload_n hx hb d_Table_valueOf_4 rfl (lv_at hl 1 rfl) ?_
  refine lv_bipush (v := 64) hx hb d_Table_valueOf_5 (by decide) ?_
  refine lv_imul hx hb d_Table_valueOf_7 ?_
  refine lv_iload_n hx hb d_Table_valueOf_8 rfl (lv_at hl 2 rfl) ?_
  refine lv_iadd hx hb d_Table_valueOf_9 ?_
  refine lv_bipush (v := 8) hx hb d_Table_valueOf_10 (by decide) ?_
  refine lv_imul hx hb d_Table_valueOf_12 ?_
  refine lv_iload_n hx hb d_Table_valueOf_13 rfl (lv_at hl 3 rfl) ?_
  refine lv_iadd hx hb d_Table_valueOf_14 ?_
  obtain ⟨hi_1, hf⟩ := q_ck hf
  refine va_lald hx hb hK hP 1 1 rfl rfl hi_1 d_Table_valueOf_15 ?_
  cases hf
  exact W.lret (v := (v_tval (Int32.toNatClampNeg ((((p1 * 64) + p2) * 8) + p3)))) hx hb hr (fun t ht hW => ⟨rfl, ht⟩) (fun q h => nomatch h) d_Table_valueOf_16
def f_Table_fillCell_cut (N : Nat) (n_iwid : Nat) (n_ibar : Nat) (n_inea : Nat) (n_tval : Nat) (n_tfit : Nat) (n_tlon : Nat) (v_items_mustSet : Int32) (v_items_count : Int32) (v_iwid : Nat → Int32) (v_ibar : Nat → Int32) (v_inea : Nat → Int64) (v_fill_least : Int32) (v_fill_most : Int32) (v_tfit : Nat → Int32) (v_tlon : Nat → Int32) : Nat → Nat → Int32 → Int32 → Int32 → Int64 → Int32 → Int32 → (Nat → Int64) → Option ((Nat → Int64))
  | 0, _, _, _, _, _, _, _, _ => none
  | n + 1, t, x1, x2, x3, x4, x6, x7, v_tval => if t = 0 then (if (8 : Int32) ≤ x6 then (if x1 < 0 ∨ n_tfit ≤ Int32.toNatClampNeg x1 then none else (f_Table_fillCell_cut N n_iwid n_ibar n_inea n_tval n_tfit n_tlon v_items_mustSet v_items_count v_iwid v_ibar v_inea v_fill_least v_fill_most v_tfit v_tlon n 1 x1 x2 x3 x4 (x2 &&& (v_tfit (Int32.toNatClampNeg x1))) 0 v_tval)) else (if x6 = (6 : Int32) then (if (x3 + x6) < 0 ∨ n_tval ≤ Int32.toNatClampNeg (x3 + x6) then none else (f_Table_fillCell_cut N n_iwid n_ibar n_inea n_tval n_tfit n_tlon v_items_mustSet v_items_count v_iwid v_ibar v_inea v_fill_least v_fill_most v_tfit v_tlon n 0 x1 x2 x3 x4 (x6 + 1) 0 (vp_updL v_tval (Int32.toNatClampNeg (x3 + x6)) (-1)))) else (if (x3 + x6) < 0 ∨ n_tval ≤ Int32.toNatClampNeg (x3 + x6) then none else (f_Table_fillCell_cut N n_iwid n_ibar n_inea n_tval n_tfit n_tlon v_items_mustSet v_items_count v_iwid v_ibar v_inea v_fill_least v_fill_most v_tfit v_tlon n 0 x1 x2 x3 x4 (x6 + 1) 0 (vp_updL v_tval (Int32.toNatClampNeg (x3 + x6)) x4))))) else (if v_items_count ≤ x7 then (some v_tval) else (Option.bind (f_RoomFills_hasItem N x6 x7) (fun r_7 => (if r_7 = true then (if x7 < 0 ∨ n_iwid ≤ Int32.toNatClampNeg x7 then none else (Option.bind (f_Table_valueOf N n_tval v_tval (x1 + (v_iwid (Int32.toNatClampNeg x7))) (x2 &&& ((1 <<< (x7 &&& 31)) ^^^ (-1))) x7) (fun r_10 => (Option.bind (f_Table_offerItem N n_ibar n_inea n_tval v_items_mustSet v_items_count v_ibar v_inea v_tval x3 x7 r_10) (fun v_tval_11 => (f_Table_fillCell_cut N n_iwid n_ibar n_inea n_tval n_tfit n_tlon v_items_mustSet v_items_count v_iwid v_ibar v_inea v_fill_least v_fill_most v_tfit v_tlon n 1 x1 x2 x3 x4 x6 (x7 + 1) v_tval_11)))))) else (f_Table_fillCell_cut N n_iwid n_ibar n_inea n_tval n_tfit n_tlon v_items_mustSet v_items_count v_iwid v_ibar v_inea v_fill_least v_fill_most v_tfit v_tlon n 1 x1 x2 x3 x4 x6 (x7 + 1) v_tval)))))
theorem f_Table_fillCell_cut_0 (N : Nat) (n_iwid : Nat) (n_ibar : Nat) (n_inea : Nat) (n_tval : Nat) (n_tfit : Nat) (n_tlon : Nat) (v_items_mustSet : Int32) (v_items_count : Int32) (v_iwid : Nat → Int32) (v_ibar : Nat → Int32) (v_inea : Nat → Int64) (v_fill_least : Int32) (v_fill_most : Int32) (v_tfit : Nat → Int32) (v_tlon : Nat → Int32) (n : Nat) (x1 : Int32) (x2 : Int32) (x3 : Int32) (x4 : Int64) (x6 : Int32) (x7 : Int32) (v_tval : Nat → Int64) : f_Table_fillCell_cut N n_iwid n_ibar n_inea n_tval n_tfit n_tlon v_items_mustSet v_items_count v_iwid v_ibar v_inea v_fill_least v_fill_most v_tfit v_tlon (n + 1) 0 x1 x2 x3 x4 x6 x7 v_tval = (if (8 : Int32) ≤ x6 then (if x1 < 0 ∨ n_tfit ≤ Int32.toNatClampNeg x1 then none else (f_Table_fillCell_cut N n_iwid n_ibar n_inea n_tval n_tfit n_tlon v_items_mustSet v_items_count v_iwid v_ibar v_inea v_fill_least v_fill_most v_tfit v_tlon n 1 x1 x2 x3 x4 (x2 &&& (v_tfit (Int32.toNatClampNeg x1))) 0 v_tval)) else (if x6 = (6 : Int32) then (if (x3 + x6) < 0 ∨ n_tval ≤ Int32.toNatClampNeg (x3 + x6) then none else (f_Table_fillCell_cut N n_iwid n_ibar n_inea n_tval n_tfit n_tlon v_items_mustSet v_items_count v_iwid v_ibar v_inea v_fill_least v_fill_most v_tfit v_tlon n 0 x1 x2 x3 x4 (x6 + 1) 0 (vp_updL v_tval (Int32.toNatClampNeg (x3 + x6)) (-1)))) else (if (x3 + x6) < 0 ∨ n_tval ≤ Int32.toNatClampNeg (x3 + x6) then none else (f_Table_fillCell_cut N n_iwid n_ibar n_inea n_tval n_tfit n_tlon v_items_mustSet v_items_count v_iwid v_ibar v_inea v_fill_least v_fill_most v_tfit v_tlon n 0 x1 x2 x3 x4 (x6 + 1) 0 (vp_updL v_tval (Int32.toNatClampNeg (x3 + x6)) x4))))) := rfl
theorem f_Table_fillCell_cut_1 (N : Nat) (n_iwid : Nat) (n_ibar : Nat) (n_inea : Nat) (n_tval : Nat) (n_tfit : Nat) (n_tlon : Nat) (v_items_mustSet : Int32) (v_items_count : Int32) (v_iwid : Nat → Int32) (v_ibar : Nat → Int32) (v_inea : Nat → Int64) (v_fill_least : Int32) (v_fill_most : Int32) (v_tfit : Nat → Int32) (v_tlon : Nat → Int32) (n : Nat) (x1 : Int32) (x2 : Int32) (x3 : Int32) (x4 : Int64) (x6 : Int32) (x7 : Int32) (v_tval : Nat → Int64) : f_Table_fillCell_cut N n_iwid n_ibar n_inea n_tval n_tfit n_tlon v_items_mustSet v_items_count v_iwid v_ibar v_inea v_fill_least v_fill_most v_tfit v_tlon (n + 1) 1 x1 x2 x3 x4 x6 x7 v_tval = (if v_items_count ≤ x7 then (some v_tval) else (Option.bind (f_RoomFills_hasItem N x6 x7) (fun r_7 => (if r_7 = true then (if x7 < 0 ∨ n_iwid ≤ Int32.toNatClampNeg x7 then none else (Option.bind (f_Table_valueOf N n_tval v_tval (x1 + (v_iwid (Int32.toNatClampNeg x7))) (x2 &&& ((1 <<< (x7 &&& 31)) ^^^ (-1))) x7) (fun r_10 => (Option.bind (f_Table_offerItem N n_ibar n_inea n_tval v_items_mustSet v_items_count v_ibar v_inea v_tval x3 x7 r_10) (fun v_tval_11 => (f_Table_fillCell_cut N n_iwid n_ibar n_inea n_tval n_tfit n_tlon v_items_mustSet v_items_count v_iwid v_ibar v_inea v_fill_least v_fill_most v_tfit v_tlon n 1 x1 x2 x3 x4 x6 (x7 + 1) v_tval_11)))))) else (f_Table_fillCell_cut N n_iwid n_ibar n_inea n_tval n_tfit n_tlon v_items_mustSet v_items_count v_iwid v_ibar v_inea v_fill_least v_fill_most v_tfit v_tlon n 1 x1 x2 x3 x4 x6 (x7 + 1) v_tval))))) := rfl
def f_Table_fillCell (N : Nat) (n_iwid : Nat) (n_ibar : Nat) (n_inea : Nat) (n_tval : Nat) (n_tfit : Nat) (n_tlon : Nat) (v_items_mustSet : Int32) (v_items_count : Int32) (v_iwid : Nat → Int32) (v_ibar : Nat → Int32) (v_inea : Nat → Int64) (v_fill_least : Int32) (v_fill_most : Int32) (v_tval : Nat → Int64) (v_tfit : Nat → Int32) (v_tlon : Nat → Int32) (p1 : Int32) (p2 : Int32) : Option ((Nat → Int64)) := (Option.bind (f_Table_cell N p1 p2) (fun r_12 => (Option.bind (f_Table_bestWithFiller N n_tval n_tlon v_fill_least v_fill_most v_tval v_tlon p1 p2) (fun r_13 => (f_Table_fillCell_cut N n_iwid n_ibar n_inea n_tval n_tfit n_tlon v_items_mustSet v_items_count v_iwid v_ibar v_inea v_fill_least v_fill_most v_tfit v_tlon N 0 p1 p2 r_12 r_13 0 0 v_tval)))))
set_option maxRecDepth 100000 in
set_option maxHeartbeats 4000000 in
theorem c_Table_fillCell (l : Launch) (D : va_G) (ad : Nat → Nat) (ki : Nat → ClassId) (n_iwid : Nat) (n_ibar : Nat) (n_inea : Nat) (n_tval : Nat) (n_tfit : Nat) (n_tlon : Nat) (v_items_mustSet : Int32) (v_items_count : Int32) (v_iwid : Nat → Int32) (v_ibar : Nat → Int32) (v_inea : Nat → Int64) (v_fill_least : Int32) (v_fill_most : Int32) (v_tval : Nat → Int64) (v_tfit : Nat → Int32) (v_tlon : Nat → Int32) (p1 : Int32) (p2 : Int32) (N : Nat) (sz : Nat) (ov_tval : Nat → Int64) (hf : f_Table_fillCell N n_iwid n_ibar n_inea n_tval n_tfit n_tlon v_items_mustSet v_items_count v_iwid v_ibar v_inea v_fill_least v_fill_most v_tval v_tfit v_tlon p1 p2 = some ov_tval) : Met l y_Table_fillCell w_Table_fillCell { frames := 2, cells := 0, slots := 0, locals := 49 } (q_PcM [.ref (ad 14), .int p1, .int p2] D vwCl [(ad 5, .inr (2, [.ref (ad 6), .ref (ad 7), .ref (ad 8), .ref (ad 9), .ref (ad 10), .ref (ad 11), .ref (ad 12), .int v_items_mustSet, .int v_items_count])), (ad 6, .inl (ki 0, n_iwid, .inl v_iwid)), (ad 8, .inl (ki 0, n_ibar, .inl v_ibar)), (ad 9, .inl (ki 1, n_inea, .inr (.inl v_inea))), (ad 13, .inr (3, [.int v_fill_least, .int v_fill_most])), (ad 14, .inr (4, [.ref (ad 2), .ref (ad 5), .ref (ad 13), .ref (ad 15), .ref (ad 16), .ref (ad 17)])), (ad 15, .inl (ki 1, n_tval, .inr (.inl v_tval))), (ad 16, .inl (ki 0, n_tfit, .inl v_tfit)), (ad 17, .inl (ki 0, n_tlon, .inl v_tlon))] (TYS ki) sz) (q_Qm (none) D vwCl [(ad 5, .inr (2, [.ref (ad 6), .ref (ad 7), .ref (ad 8), .ref (ad 9), .ref (ad 10), .ref (ad 11), .ref (ad 12), .int v_items_mustSet, .int v_items_count])), (ad 6, .inl (ki 0, n_iwid, .inl v_iwid)), (ad 8, .inl (ki 0, n_ibar, .inl v_ibar)), (ad 9, .inl (ki 1, n_inea, .inr (.inl v_inea))), (ad 13, .inr (3, [.int v_fill_least, .int v_fill_most])), (ad 14, .inr (4, [.ref (ad 2), .ref (ad 5), .ref (ad 13), .ref (ad 15), .ref (ad 16), .ref (ad 17)])), (ad 15, .inl (ki 1, n_tval, .inr (.inl ov_tval))), (ad 16, .inl (ki 0, n_tfit, .inl v_tfit)), (ad 17, .inl (ki 0, n_tlon, .inl v_tlon))] (va_A [(ad 5, .inr (2, [.ref (ad 6), .ref (ad 7), .ref (ad 8), .ref (ad 9), .ref (ad 10), .ref (ad 11), .ref (ad 12), .int v_items_mustSet, .int v_items_count])), (ad 6, .inl (ki 0, n_iwid, .inl v_iwid)), (ad 8, .inl (ki 0, n_ibar, .inl v_ibar)), (ad 9, .inl (ki 1, n_inea, .inr (.inl v_inea))), (ad 13, .inr (3, [.int v_fill_least, .int v_fill_most])), (ad 14, .inr (4, [.ref (ad 2), .ref (ad 5), .ref (ad 13), .ref (ad 15), .ref (ad 16), .ref (ad 17)])), (ad 15, .inl (ki 1, n_tval, .inr (.inl v_tval))), (ad 16, .inl (ki 0, n_tfit, .inl v_tfit)), (ad 17, .inl (ki 0, n_tlon, .inl v_tlon))] sz)) 0 0 (va_A [(ad 5, .inr (2, [.ref (ad 6), .ref (ad 7), .ref (ad 8), .ref (ad 9), .ref (ad 10), .ref (ad 11), .ref (ad 12), .int v_items_mustSet, .int v_items_count])), (ad 6, .inl (ki 0, n_iwid, .inl v_iwid)), (ad 8, .inl (ki 0, n_ibar, .inl v_ibar)), (ad 9, .inl (ki 1, n_inea, .inr (.inl v_inea))), (ad 13, .inr (3, [.int v_fill_least, .int v_fill_most])), (ad 14, .inr (4, [.ref (ad 2), .ref (ad 5), .ref (ad 13), .ref (ad 15), .ref (ad 16), .ref (ad 17)])), (ad 15, .inl (ki 1, n_tval, .inr (.inl v_tval))), (ad 16, .inl (ki 0, n_tfit, .inl v_tfit)), (ad 17, .inl (ki 0, n_tlon, .inl v_tlon))] sz) := by
  refine Met.ofW (cc := b_Table_fillCell) (maxL := 8) (ret := none) (by decide) rfl ?_
  intro p e s m args below meth c s₁ B hml hv
  obtain ⟨rfl, hsz, hP, hK, hD0, hE⟩ := hv
  have hx := B.exec
  have hb := B.bytes
  have hr := B.returns
  have hts := atoms_spec (ws := w_Table_fillCell) B.pre
  have hown : s.vm.findClass R_Table = some m.cls := findClass_of_methodNamed B.named
  have hlocks := B.notSynchronized
  have hn_Items : ∀ w ∈ u_ws R_Items F_Items 9, w ∈ w_Table_fillCell := (fun w h => List.mem_cons_of_mem _ (i_Items w h))
  have hn_Table : ∀ w ∈ u_ws R_Table F_Table 6, w ∈ w_Table_fillCell := (fun w h => List.mem_cons_of_mem _ (i_Table w h))
  have hL15 := hts (.fieldLink R_Table 15 "RoomFills$Table" "items" "LRoomFills$Items;") (List.mem_cons_of_mem _ m_192)
  have hL29 := hts (.fieldLink R_Table 29 "RoomFills$Table" "values" "[J") (List.mem_cons_of_mem _ m_195)
  have hL33 := hts (.fieldLink R_Table 33 "RoomFills$Table" "fittingSet" "[I") (List.mem_cons_of_mem _ m_196)
  have hL40 := hts (.constantLong R_Table 40 (-1)) (List.mem_cons_of_mem _ m_349)
  have hL64 := hts (.fieldLink R_Table 64 "RoomFills$Items" "count" "I") (List.mem_cons_of_mem _ m_140)
  have hL96 := hts (.fieldLink R_Table 96 "RoomFills$Items" "width" "[I") (List.mem_cons_of_mem _ m_120)
  subst hsz
  have hD := hD0.self (sz := s.heap.size)
  generalize hAe : va_A [(ad 5, .inr (2, [.ref (ad 6), .ref (ad 7), .ref (ad 8), .ref (ad 9), .ref (ad 10), .ref (ad 11), .ref (ad 12), .int v_items_mustSet, .int v_items_count])), (ad 6, .inl (ki 0, n_iwid, .inl v_iwid)), (ad 8, .inl (ki 0, n_ibar, .inl v_ibar)), (ad 9, .inl (ki 1, n_inea, .inr (.inl v_inea))), (ad 13, .inr (3, [.int v_fill_least, .int v_fill_most])), (ad 14, .inr (4, [.ref (ad 2), .ref (ad 5), .ref (ad 13), .ref (ad 15), .ref (ad 16), .ref (ad 17)])), (ad 15, .inl (ki 1, n_tval, .inr (.inl v_tval))), (ad 16, .inl (ki 0, n_tfit, .inl v_tfit)), (ad 17, .inl (ki 0, n_tlon, .inl v_tlon))] s.heap.size = A at hD ⊢
  have hA : ∀ q : Nat, s.heap.size ≤ q → A q := fun q h => by rw [← hAe]; exact Or.inr h
  have hS : va_S A s.heap s.heap [] := va_S.rf
  replace hP : va_P D vwCl [(ad 5, .inr (2, [.ref (ad 6), .ref (ad 7), .ref (ad 8), .ref (ad 9), .ref (ad 10), .ref (ad 11), .ref (ad 12), .int v_items_mustSet, .int v_items_count])), (ad 6, .inl (ki 0, n_iwid, .inl v_iwid)), (ad 8, .inl (ki 0, n_ibar, .inl v_ibar)), (ad 9, .inl (ki 1, n_inea, .inr (.inl v_inea))), (ad 13, .inr (3, [.int v_fill_least, .int v_fill_most])), (ad 14, .inr (4, [.ref (ad 2), .ref (ad 5), .ref (ad 13), .ref (ad 15), .ref (ad 16), .ref (ad 17)])), (ad 15, .inl (ki 1, n_tval, .inr (.inl v_tval))), (ad 16, .inl (ki 0, n_tfit, .inl v_tfit)), (ad 17, .inl (ki 0, n_tlon, .inl v_tlon))] s.heap := hP
  have hl := lv_entry ([.ref (ad 14), .int p1, .int p2]) (n := 8) (Nat.le_of_ble_eq_true rfl)
  rw [lg_entry_eq]
  generalize (lg_sl ([.ref (ad 14), .int p1, .int p2]) ++ List.replicate (8 - (lg_sl ([.ref (ad 14), .int p1, .int p2])).length) Slot.unset).toArray = ls at hl ⊢
  replace hl : lv_has ls 8 [(0, .ref (ad 14)), (1, .int p1), (2, .int p2)] := hl
  have key : ∀ n : Nat, (∀ (x1 : Int32) (x2 : Int32) (x3 : Int32) (x4 : Int64) (x6 : Int32) (v_tval : Nat → Int64), f_Table_fillCell_cut N n_iwid n_ibar n_inea n_tval n_tfit n_tlon v_items_mustSet v_items_count v_iwid v_ibar v_inea v_fill_least v_fill_most v_tfit v_tlon n 0 x1 x2 x3 x4 x6 0 v_tval = some ov_tval → ∀ (H : Heap) (locs : List Loc), va_P D vwCl [(ad 5, .inr (2, [.ref (ad 6), .ref (ad 7), .ref (ad 8), .ref (ad 9), .ref (ad 10), .ref (ad 11), .ref (ad 12), .int v_items_mustSet, .int v_items_count])), (ad 6, .inl (ki 0, n_iwid, .inl v_iwid)), (ad 8, .inl (ki 0, n_ibar, .inl v_ibar)), (ad 9, .inl (ki 1, n_inea, .inr (.inl v_inea))), (ad 13, .inr (3, [.int v_fill_least, .int v_fill_most])), (ad 14, .inr (4, [.ref (ad 2), .ref (ad 5), .ref (ad 13), .ref (ad 15), .ref (ad 16), .ref (ad 17)])), (ad 15, .inl (ki 1, n_tval, .inr (.inl v_tval))), (ad 16, .inl (ki 0, n_tfit, .inl v_tfit)), (ad 17, .inl (ki 0, n_tlon, .inl v_tlon))] H → va_D A [(ad 5, .inr (2, [.ref (ad 6), .ref (ad 7), .ref (ad 8), .ref (ad 9), .ref (ad 10), .ref (ad 11), .ref (ad 12), .int v_items_mustSet, .int v_items_count])), (ad 6, .inl (ki 0, n_iwid, .inl v_iwid)), (ad 8, .inl (ki 0, n_ibar, .inl v_ibar)), (ad 9, .inl (ki 1, n_inea, .inr (.inl v_inea))), (ad 13, .inr (3, [.int v_fill_least, .int v_fill_most])), (ad 14, .inr (4, [.ref (ad 2), .ref (ad 5), .ref (ad 13), .ref (ad 15), .ref (ad 16), .ref (ad 17)])), (ad 15, .inl (ki 1, n_tval, .inr (.inl v_tval))), (ad 16, .inl (ki 0, n_tfit, .inl v_tfit)), (ad 17, .inl (ki 0, n_tlon, .inl v_tlon))] → va_S A s.heap H locs → ∀ (ls : Array Slot), lv_has ls 8 [(0, .ref (ad 14)), (1, .int x1), (2, .int x2), (3, .int x3), (4, .long x4), (6, .int x6)] → W p l e (headSpec w_Table_fillCell { frames := 2, cells := 0, slots := 0, locals := 49 }).room s m ([.ref (ad 14), .int p1, .int p2] : List Value).toArray below meth c H locs 0 0 (MQ below (q_Qm (none) D vwCl [(ad 5, .inr (2, [.ref (ad 6), .ref (ad 7), .ref (ad 8), .ref (ad 9), .ref (ad 10), .ref (ad 11), .ref (ad 12), .int v_items_mustSet, .int v_items_count])), (ad 6, .inl (ki 0, n_iwid, .inl v_iwid)), (ad 8, .inl (ki 0, n_ibar, .inl v_ibar)), (ad 9, .inl (ki 1, n_inea, .inr (.inl v_inea))), (ad 13, .inr (3, [.int v_fill_least, .int v_fill_most])), (ad 14, .inr (4, [.ref (ad 2), .ref (ad 5), .ref (ad 13), .ref (ad 15), .ref (ad 16), .ref (ad 17)])), (ad 15, .inl (ki 1, n_tval, .inr (.inl ov_tval))), (ad 16, .inl (ki 0, n_tfit, .inl v_tfit)), (ad 17, .inl (ki 0, n_tlon, .inl v_tlon))] A) ([.ref (ad 14), .int p1, .int p2] : List Value).toArray s 0 0 A) (F0 m 17 ls [])) ∧ (∀ (x1 : Int32) (x2 : Int32) (x3 : Int32) (x4 : Int64) (x6 : Int32) (x7 : Int32) (v_tval : Nat → Int64), f_Table_fillCell_cut N n_iwid n_ibar n_inea n_tval n_tfit n_tlon v_items_mustSet v_items_count v_iwid v_ibar v_inea v_fill_least v_fill_most v_tfit v_tlon n 1 x1 x2 x3 x4 x6 x7 v_tval = some ov_tval → ∀ (H : Heap) (locs : List Loc), va_P D vwCl [(ad 5, .inr (2, [.ref (ad 6), .ref (ad 7), .ref (ad 8), .ref (ad 9), .ref (ad 10), .ref (ad 11), .ref (ad 12), .int v_items_mustSet, .int v_items_count])), (ad 6, .inl (ki 0, n_iwid, .inl v_iwid)), (ad 8, .inl (ki 0, n_ibar, .inl v_ibar)), (ad 9, .inl (ki 1, n_inea, .inr (.inl v_inea))), (ad 13, .inr (3, [.int v_fill_least, .int v_fill_most])), (ad 14, .inr (4, [.ref (ad 2), .ref (ad 5), .ref (ad 13), .ref (ad 15), .ref (ad 16), .ref (ad 17)])), (ad 15, .inl (ki 1, n_tval, .inr (.inl v_tval))), (ad 16, .inl (ki 0, n_tfit, .inl v_tfit)), (ad 17, .inl (ki 0, n_tlon, .inl v_tlon))] H → va_D A [(ad 5, .inr (2, [.ref (ad 6), .ref (ad 7), .ref (ad 8), .ref (ad 9), .ref (ad 10), .ref (ad 11), .ref (ad 12), .int v_items_mustSet, .int v_items_count])), (ad 6, .inl (ki 0, n_iwid, .inl v_iwid)), (ad 8, .inl (ki 0, n_ibar, .inl v_ibar)), (ad 9, .inl (ki 1, n_inea, .inr (.inl v_inea))), (ad 13, .inr (3, [.int v_fill_least, .int v_fill_most])), (ad 14, .inr (4, [.ref (ad 2), .ref (ad 5), .ref (ad 13), .ref (ad 15), .ref (ad 16), .ref (ad 17)])), (ad 15, .inl (ki 1, n_tval, .inr (.inl v_tval))), (ad 16, .inl (ki 0, n_tfit, .inl v_tfit)), (ad 17, .inl (ki 0, n_tlon, .inl v_tlon))] → va_S A s.heap H locs → ∀ (ls : Array Slot), lv_has ls 8 [(0, .ref (ad 14)), (1, .int x1), (2, .int x2), (3, .int x3), (4, .long x4), (6, .int x6), (7, .int x7)] → W p l e (headSpec w_Table_fillCell { frames := 2, cells := 0, slots := 0, locals := 49 }).room s m ([.ref (ad 14), .int p1, .int p2] : List Value).toArray below meth c H locs 0 0 (MQ below (q_Qm (none) D vwCl [(ad 5, .inr (2, [.ref (ad 6), .ref (ad 7), .ref (ad 8), .ref (ad 9), .ref (ad 10), .ref (ad 11), .ref (ad 12), .int v_items_mustSet, .int v_items_count])), (ad 6, .inl (ki 0, n_iwid, .inl v_iwid)), (ad 8, .inl (ki 0, n_ibar, .inl v_ibar)), (ad 9, .inl (ki 1, n_inea, .inr (.inl v_inea))), (ad 13, .inr (3, [.int v_fill_least, .int v_fill_most])), (ad 14, .inr (4, [.ref (ad 2), .ref (ad 5), .ref (ad 13), .ref (ad 15), .ref (ad 16), .ref (ad 17)])), (ad 15, .inl (ki 1, n_tval, .inr (.inl ov_tval))), (ad 16, .inl (ki 0, n_tfit, .inl v_tfit)), (ad 17, .inl (ki 0, n_tlon, .inl v_tlon))] A) ([.ref (ad 14), .int p1, .int p2] : List Value).toArray s 0 0 A) (F0 m 67 ls [])) := by
    intro n
    induction n with
    | zero =>
      exact ⟨fun x1 x2 x3 x4 x6 v_tval hf => (nomatch (show none = some _ from hf)), fun x1 x2 x3 x4 x6 x7 v_tval hf => (nomatch (show none = some _ from hf))⟩
    | succ n ih =>
      refine ⟨?_, ?_⟩
      · intro x1 x2 x3 x4 x6 v_tval hf H locs hP hD hS ls hl
        rw [f_Table_fillCell_cut_0] at hf
        refine lv_iload hx hb d_Table_fillCell_17 (lv_at hl 5 rfl) ?_
        refine lv_bipush (v := 8) hx hb d_Table_fillCell_19 (by decide) ?_
        refine lv_icmp_ge (tgt := 54) hx hb d_Table_fillCell_21 (by decide) (fun c_1 => ?_) (fun c_1 => ?_)
        · replace hf := q_it hf c_1
          refine lv_iload_n hx hb d_Table_fillCell_54 rfl (lv_at hl 2 rfl) ?_
          refine lv_aload_n hx hb d_Table_fillCell_55 rfl (lv_at hl 0 rfl) ?_
          refine va_get (D := D) (ci := 4) (v := .ref (ad 16)) (C := R_Table) (T := F_Table) (N := 6) hx hb hts hn_Table hown hK hP 5 rfl rfl 4 (by decide) hL33 (fun _ h9 => h9) rfl d_Table_fillCell_56 ?_
          refine lv_iload_n hx hb d_Table_fillCell_59 rfl (lv_at hl 1 rfl) ?_
          obtain ⟨hi_2, hf⟩ := q_ck hf
          refine va_iald hx hb hK hP 7 0 rfl rfl hi_2 d_Table_fillCell_60 ?_
          refine lv_iand hx hb d_Table_fillCell_61 ?_
          refine lv_istore (lv' := [(6, .int (x2 &&& (v_tfit (Int32.toNatClampNeg x1)))), (0, .ref (ad 14)), (1, .int x1), (2, .int x2), (3, .int x3), (4, .long x4)]) hx hb d_Table_fillCell_62 hl (by decide) rfl (fun ls hl => ?_)
          refine lv_iconst (v := 0) hx hb d_Table_fillCell_64 (by decide) ?_
          refine lv_istore (lv' := [(7, .int 0), (6, .int (x2 &&& (v_tfit (Int32.toNatClampNeg x1)))), (0, .ref (ad 14)), (1, .int x1), (2, .int x2), (3, .int x3), (4, .long x4)]) hx hb d_Table_fillCell_65 hl (by decide) rfl (fun ls hl => ?_)
          exact (ih).2 x1 x2 x3 x4 (x2 &&& (v_tfit (Int32.toNatClampNeg x1))) 0 v_tval hf _ _ hP hD hS ls (lv_sub hl [2, 3, 4, 5, 6, 1, 0] rfl)
        replace hf := q_ie hf c_1
        refine lv_aload_n hx hb d_Table_fillCell_24 rfl (lv_at hl 0 rfl) ?_
        refine va_get (D := D) (ci := 4) (v := .ref (ad 15)) (C := R_Table) (T := F_Table) (N := 6) hx hb hts hn_Table hown hK hP 5 rfl rfl 3 (by decide) hL29 (fun _ h9 => h9) rfl d_Table_fillCell_25 ?_
        refine lv_iload_n hx hb d_Table_fillCell_28 rfl (lv_at hl 3 rfl) ?_
        refine lv_iload hx hb d_Table_fillCell_29 (lv_at hl 5 rfl) ?_
        refine lv_iadd hx hb d_Table_fillCell_31 ?_
        refine lv_iload hx hb d_Table_fillCell_32 (lv_at hl 5 rfl) ?_
        refine lv_bipush (v := 6) hx hb d_Table_fillCell_34 (by decide) ?_
        refine lv_icmp_ne (tgt := 45) hx hb d_Table_fillCell_36 (by decide) (fun c_3 => ?_) (fun c_3 => ?_)
        · replace hf := q_ie hf c_3
          refine lv_lload hx hb d_Table_fillCell_45 (lv_at hl 4 rfl) ?_
          obtain ⟨hi_4, hf⟩ := q_ck hf
          refine va_last hx hb hK hP hD hS 6 1 rfl rfl hi_4 d_Table_fillCell_47 (fun H locs hP hD hS => ?_)
          replace hP : va_P D vwCl [(ad 5, .inr (2, [.ref (ad 6), .ref (ad 7), .ref (ad 8), .ref (ad 9), .ref (ad 10), .ref (ad 11), .ref (ad 12), .int v_items_mustSet, .int v_items_count])), (ad 6, .inl (ki 0, n_iwid, .inl v_iwid)), (ad 8, .inl (ki 0, n_ibar, .inl v_ibar)), (ad 9, .inl (ki 1, n_inea, .inr (.inl v_inea))), (ad 13, .inr (3, [.int v_fill_least, .int v_fill_most])), (ad 14, .inr (4, [.ref (ad 2), .ref (ad 5), .ref (ad 13), .ref (ad 15), .ref (ad 16), .ref (ad 17)])), (ad 15, .inl (ki 1, n_tval, .inr (.inl (vp_updL v_tval (Int32.toNatClampNeg (x3 + x6)) x4)))), (ad 16, .inl (ki 0, n_tfit, .inl v_tfit)), (ad 17, .inl (ki 0, n_tlon, .inl v_tlon))] H := hP
          replace hD : va_D A [(ad 5, .inr (2, [.ref (ad 6), .ref (ad 7), .ref (ad 8), .ref (ad 9), .ref (ad 10), .ref (ad 11), .ref (ad 12), .int v_items_mustSet, .int v_items_count])), (ad 6, .inl (ki 0, n_iwid, .inl v_iwid)), (ad 8, .inl (ki 0, n_ibar, .inl v_ibar)), (ad 9, .inl (ki 1, n_inea, .inr (.inl v_inea))), (ad 13, .inr (3, [.int v_fill_least, .int v_fill_most])), (ad 14, .inr (4, [.ref (ad 2), .ref (ad 5), .ref (ad 13), .ref (ad 15), .ref (ad 16), .ref (ad 17)])), (ad 15, .inl (ki 1, n_tval, .inr (.inl (vp_updL v_tval (Int32.toNatClampNeg (x3 + x6)) x4)))), (ad 16, .inl (ki 0, n_tfit, .inl v_tfit)), (ad 17, .inl (ki 0, n_tlon, .inl v_tlon))] := hD
          refine lv_iinc (v := (x6 + 1)) (lv' := [(6, .int (x6 + 1)), (0, .ref (ad 14)), (1, .int x1), (2, .int x2), (3, .int x3), (4, .long x4)]) hx hb d_Table_fillCell_48 hl (k := 5) rfl rfl (by decide) rfl (fun ls hl => ?_)
          refine lv_goto (tgt := 17) hx hb d_Table_fillCell_51 (by decide) ?_
          exact (ih).1 x1 x2 x3 x4 (x6 + 1) (vp_updL v_tval (Int32.toNatClampNeg (x3 + x6)) x4) hf _ _ hP hD hS ls (lv_sub hl [1, 2, 3, 4, 5, 0] rfl)
        replace hf := q_it hf c_3
        refine lv_ldc2 (v := (-1)) hx hb hown hL40 d_Table_fillCell_39 ?_
        refine lv_goto (tgt := 47) hx hb d_Table_fillCell_42 (by decide) ?_
        obtain ⟨hi_5, hf⟩ := q_ck hf
        refine va_last hx hb hK hP hD hS 6 1 rfl rfl hi_5 d_Table_fillCell_47 (fun H locs hP hD hS => ?_)
        replace hP : va_P D vwCl [(ad 5, .inr (2, [.ref (ad 6), .ref (ad 7), .ref (ad 8), .ref (ad 9), .ref (ad 10), .ref (ad 11), .ref (ad 12), .int v_items_mustSet, .int v_items_count])), (ad 6, .inl (ki 0, n_iwid, .inl v_iwid)), (ad 8, .inl (ki 0, n_ibar, .inl v_ibar)), (ad 9, .inl (ki 1, n_inea, .inr (.inl v_inea))), (ad 13, .inr (3, [.int v_fill_least, .int v_fill_most])), (ad 14, .inr (4, [.ref (ad 2), .ref (ad 5), .ref (ad 13), .ref (ad 15), .ref (ad 16), .ref (ad 17)])), (ad 15, .inl (ki 1, n_tval, .inr (.inl (vp_updL v_tval (Int32.toNatClampNeg (x3 + x6)) (-1))))), (ad 16, .inl (ki 0, n_tfit, .inl v_tfit)), (ad 17, .inl (ki 0, n_tlon, .inl v_tlon))] H := hP
        replace hD : va_D A [(ad 5, .inr (2, [.ref (ad 6), .ref (ad 7), .ref (ad 8), .ref (ad 9), .ref (ad 10), .ref (ad 11), .ref (ad 12), .int v_items_mustSet, .int v_items_count])), (ad 6, .inl (ki 0, n_iwid, .inl v_iwid)), (ad 8, .inl (ki 0, n_ibar, .inl v_ibar)), (ad 9, .inl (ki 1, n_inea, .inr (.inl v_inea))), (ad 13, .inr (3, [.int v_fill_least, .int v_fill_most])), (ad 14, .inr (4, [.ref (ad 2), .ref (ad 5), .ref (ad 13), .ref (ad 15), .ref (ad 16), .ref (ad 17)])), (ad 15, .inl (ki 1, n_tval, .inr (.inl (vp_updL v_tval (Int32.toNatClampNeg (x3 + x6)) (-1))))), (ad 16, .inl (ki 0, n_tfit, .inl v_tfit)), (ad 17, .inl (ki 0, n_tlon, .inl v_tlon))] := hD
        refine lv_iinc (v := (x6 + 1)) (lv' := [(6, .int (x6 + 1)), (0, .ref (ad 14)), (1, .int x1), (2, .int x2), (3, .int x3), (4, .long x4)]) hx hb d_Table_fillCell_48 hl (k := 5) rfl rfl (by decide) rfl (fun ls hl => ?_)
        refine lv_goto (tgt := 17) hx hb d_Table_fillCell_51 (by decide) ?_
        exact (ih).1 x1 x2 x3 x4 (x6 + 1) (vp_updL v_tval (Int32.toNatClampNeg (x3 + x6)) (-1)) hf _ _ hP hD hS ls (lv_sub hl [1, 2, 3, 4, 5, 0] rfl)
      · intro x1 x2 x3 x4 x6 x7 v_tval hf H locs hP hD hS ls hl
        rw [f_Table_fillCell_cut_1] at hf
        refine lv_iload hx hb d_Table_fillCell_67 (lv_at hl 6 rfl) ?_
        refine lv_aload_n hx hb d_Table_fillCell_69 rfl (lv_at hl 0 rfl) ?_
        refine va_get (D := D) (ci := 4) (v := .ref (ad 5)) (C := R_Table) (T := F_Table) (N := 6) hx hb hts hn_Table hown hK hP 5 rfl rfl 1 (by decide) hL15 (fun _ h9 => h9) rfl d_Table_fillCell_70 ?_
        refine va_get (D := D) (ci := 2) (v := .int v_items_count) (C := R_Items) (T := F_Items) (N := 9) hx hb hts hn_Items hown hK hP 0 rfl rfl 8 (by decide) hL64 (fun _ h9 => h9) rfl d_Table_fillCell_73 ?_
        refine lv_icmp_ge (tgt := 128) hx hb d_Table_fillCell_76 (by decide) (fun c_6 => ?_) (fun c_6 => ?_)
        · replace hf := q_it hf c_6
          cases hf
          exact W.vret hx hb hr (fun t ht hW => ⟨rfl, by rw [ht]; exact hP, hS.F ht⟩) hS.2.2 d_Table_fillCell_128
        replace hf := q_ie hf c_6
        refine lv_iload hx hb d_Table_fillCell_79 (lv_at hl 5 rfl) ?_
        refine lv_iload hx hb d_Table_fillCell_81 (lv_at hl 6 rfl) ?_
        obtain ⟨r_7, hc_7, hf⟩ := q_mb hf
        refine q_pcall (va_Run.run (va_runSN (As := [.int x6, .int x7]) (rest := []) ⟨hx, hb, hml, hown, hts⟩ (c_RoomFills_hasItem l D ad ki x6 x7 N r_7 hc_7) ⟨va_cnB (host := R_RoomFills) 2 hts (q_goodI m_395) rfl rfl rfl (hE.1 (.methodLinkNest R_Table 107 y_RoomFills_hasItem R_RoomFills) (by decide +kernel)) (hts (.initialized R_RoomFills) (List.mem_cons_of_mem _ m_54)) (by decide +kernel) ⟨Nat.le_of_ble_eq_true rfl, Nat.le_of_ble_eq_true rfl⟩, hts (.static y_RoomFills_hasItem) (List.mem_cons_of_mem _ m_394), trivial⟩ (q_preSP (wc := []) hE hK hP [] rfl) rfl rfl hl.1 rfl (lv_room (Nat.le_of_ble_eq_true rfl)) d_Table_fillCell_83 ⟨Nat.le_of_ble_eq_true rfl, Nat.le_of_ble_eq_true rfl⟩)) ?_
        refine zv_eq (tgt := 122) hx hb d_Table_fillCell_86 (by decide) (fun c_8 => ?_) (fun c_8 => ?_)
        · replace hf := q_ie hf c_8
          refine lv_iinc (v := (x7 + 1)) (lv' := [(7, .int (x7 + 1)), (0, .ref (ad 14)), (1, .int x1), (2, .int x2), (3, .int x3), (4, .long x4), (6, .int x6)]) hx hb d_Table_fillCell_122 hl (k := 6) rfl rfl (by decide) rfl (fun ls hl => ?_)
          refine lv_goto (tgt := 67) hx hb d_Table_fillCell_125 (by decide) ?_
          exact (ih).2 x1 x2 x3 x4 x6 (x7 + 1) v_tval hf _ _ hP hD hS ls (lv_sub hl [1, 2, 3, 4, 5, 6, 0] rfl)
        replace hf := q_it hf c_8
        refine lv_aload_n hx hb d_Table_fillCell_89 rfl (lv_at hl 0 rfl) ?_
        refine lv_iload_n hx hb d_Table_fillCell_90 rfl (lv_at hl 3 rfl) ?_
        refine lv_iload hx hb d_Table_fillCell_91 (lv_at hl 6 rfl) ?_
        refine lv_aload_n hx hb d_Table_fillCell_93 rfl (lv_at hl 0 rfl) ?_
        refine lv_iload_n hx hb d_Table_fillCell_94 rfl (lv_at hl 1 rfl) ?_
        refine lv_aload_n hx hb d_Table_fillCell_95 rfl (lv_at hl 0 rfl) ?_
        refine va_get (D := D) (ci := 4) (v := .ref (ad 5)) (C := R_Table) (T := F_Table) (N := 6) hx hb hts hn_Table hown hK hP 5 rfl rfl 1 (by decide) hL15 (fun _ h9 => h9) rfl d_Table_fillCell_96 ?_
        refine va_get (D := D) (ci := 2) (v := .ref (ad 6)) (C := R_Items) (T := F_Items) (N := 9) hx hb hts hn_Items hown hK hP 0 rfl rfl 0 (by decide) hL96 (fun _ h9 => h9) rfl d_Table_fillCell_99 ?_
        refine lv_iload hx hb d_Table_fillCell_102 (lv_at hl 6 rfl) ?_
        obtain ⟨hi_9, hf⟩ := q_ck hf
        refine va_iald hx hb hK hP 1 0 rfl rfl hi_9 d_Table_fillCell_104 ?_
        refine lv_iadd hx hb d_Table_fillCell_105 ?_
        refine lv_iload_n hx hb d_Table_fillCell_106 rfl (lv_at hl 2 rfl) ?_
        refine lv_iconst (v := 1) hx hb d_Table_fillCell_107 (by decide) ?_
        refine lv_iload hx hb d_Table_fillCell_108 (lv_at hl 6 rfl) ?_
        refine lv_ishl hx hb d_Table_fillCell_110 ?_
        refine lv_iconst (v := (-1)) hx hb d_Table_fillCell_111 (by decide) ?_
        refine lv_ixor hx hb d_Table_fillCell_112 ?_
        refine lv_iand hx hb d_Table_fillCell_113 ?_
        refine lv_iload hx hb d_Table_fillCell_114 (lv_at hl 6 rfl) ?_
        obtain ⟨r_10, hc_10, hf⟩ := q_mb hf
        refine q_pcall (W.runV (As := [.int (x1 + (v_iwid (Int32.toNatClampNeg x7))), .int (x2 &&& ((1 <<< (x7 &&& 31)) ^^^ (-1))), .int x7]) (rest := [.int x7, .int x3, .ref (ad 14)]) ⟨hx, hb, hml, hown, hts⟩ (c_Table_valueOf l D ad ki n_tval v_tval (x1 + (v_iwid (Int32.toNatClampNeg x7))) (x2 &&& ((1 <<< (x7 &&& 31)) ^^^ (-1))) x7 N r_10 hc_10) (cwV 3 hts (q_goodV ⟨m_360, m_361, m_362, m_60⟩ m_363) rfl rfl rfl (by decide +kernel) ⟨Nat.le_of_ble_eq_true rfl, Nat.le_of_ble_eq_true rfl⟩) (q_preVP (wc := [(ad 14, .inr (4, [.ref (ad 2), .ref (ad 5), .ref (ad 13), .ref (ad 15), .ref (ad 16), .ref (ad 17)])), (ad 15, .inl (ki 1, n_tval, .inr (.inl v_tval)))]) hE hK hP [5, 6] rfl 5 4 rfl rfl) rfl rfl hl.1 rfl (lv_room (Nat.le_of_ble_eq_true rfl)) d_Table_fillCell_116 ⟨Nat.le_of_ble_eq_true rfl, Nat.le_of_ble_eq_true rfl⟩) ?_
        obtain ⟨v_tval_11, hc_11, hf⟩ := q_mb hf
        have hC_11 : ([0, 2, 3, 5, 6] : List Nat).map (fun i => ([(ad 5, .inr (2, [.ref (ad 6), .ref (ad 7), .ref (ad 8), .ref (ad 9), .ref (ad 10), .ref (ad 11), .ref (ad 12), .int v_items_mustSet, .int v_items_count])), (ad 6, .inl (ki 0, n_iwid, .inl v_iwid)), (ad 8, .inl (ki 0, n_ibar, .inl v_ibar)), (ad 9, .inl (ki 1, n_inea, .inr (.inl v_inea))), (ad 13, .inr (3, [.int v_fill_least, .int v_fill_most])), (ad 14, .inr (4, [.ref (ad 2), .ref (ad 5), .ref (ad 13), .ref (ad 15), .ref (ad 16), .ref (ad 17)])), (ad 15, .inl (ki 1, n_tval, .inr (.inl v_tval))), (ad 16, .inl (ki 0, n_tfit, .inl v_tfit)), (ad 17, .inl (ki 0, n_tlon, .inl v_tlon))] : va_W)[i]?) = ([(ad 5, .inr (2, [.ref (ad 6), .ref (ad 7), .ref (ad 8), .ref (ad 9), .ref (ad 10), .ref (ad 11), .ref (ad 12), .int v_items_mustSet, .int v_items_count])), (ad 8, .inl (ki 0, n_ibar, .inl v_ibar)), (ad 9, .inl (ki 1, n_inea, .inr (.inl v_inea))), (ad 14, .inr (4, [.ref (ad 2), .ref (ad 5), .ref (ad 13), .ref (ad 15), .ref (ad 16), .ref (ad 17)])), (ad 15, .inl (ki 1, n_tval, .inr (.inl v_tval)))] : va_W).map some := rfl
        refine q_mcall3 (w1 := [(ad 5, .inr (2, [.ref (ad 6), .ref (ad 7), .ref (ad 8), .ref (ad 9), .ref (ad 10), .ref (ad 11), .ref (ad 12), .int v_items_mustSet, .int v_items_count])), (ad 8, .inl (ki 0, n_ibar, .inl v_ibar)), (ad 9, .inl (ki 1, n_inea, .inr (.inl v_inea))), (ad 14, .inr (4, [.ref (ad 2), .ref (ad 5), .ref (ad 13), .ref (ad 15), .ref (ad 16), .ref (ad 17)])), (ad 15, .inl (ki 1, n_tval, .inr (.inl v_tval_11)))]) (ws' := [(ad 5, .inr (2, [.ref (ad 6), .ref (ad 7), .ref (ad 8), .ref (ad 9), .ref (ad 10), .ref (ad 11), .ref (ad 12), .int v_items_mustSet, .int v_items_count])), (ad 6, .inl (ki 0, n_iwid, .inl v_iwid)), (ad 8, .inl (ki 0, n_ibar, .inl v_ibar)), (ad 9, .inl (ki 1, n_inea, .inr (.inl v_inea))), (ad 13, .inr (3, [.int v_fill_least, .int v_fill_most])), (ad 14, .inr (4, [.ref (ad 2), .ref (ad 5), .ref (ad 13), .ref (ad 15), .ref (ad 16), .ref (ad 17)])), (ad 15, .inl (ki 1, n_tval, .inr (.inl v_tval_11))), (ad 16, .inl (ki 0, n_tfit, .inl v_tfit)), (ad 17, .inl (ki 0, n_tlon, .inl v_tlon))]) (wc := [(ad 5, .inr (2, [.ref (ad 6), .ref (ad 7), .ref (ad 8), .ref (ad 9), .ref (ad 10), .ref (ad 11), .ref (ad 12), .int v_items_mustSet, .int v_items_count])), (ad 8, .inl (ki 0, n_ibar, .inl v_ibar)), (ad 9, .inl (ki 1, n_inea, .inr (.inl v_inea))), (ad 14, .inr (4, [.ref (ad 2), .ref (ad 5), .ref (ad 13), .ref (ad 15), .ref (ad 16), .ref (ad 17)])), (ad 15, .inl (ki 1, n_tval, .inr (.inl v_tval)))]) (va_runV (As := [.int x3, .int x7, .long r_10]) (rest := []) ⟨hx, hb, hml, hown, hts⟩ (c_Table_offerItem l D ad ki n_ibar n_inea n_tval v_items_mustSet v_items_count v_ibar v_inea v_tval x3 x7 r_10 N _ v_tval_11 hc_11) (cwV 3 hts (q_goodV ⟨m_396, m_398, m_5, m_60⟩ m_399) rfl rfl rfl (by decide +kernel) ⟨Nat.le_of_ble_eq_true rfl, Nat.le_of_ble_eq_true rfl⟩) (q_preVM3 hE hK hP hD (by decide +kernel) hC_11 5 4 rfl rfl) rfl rfl hl.1 rfl (lv_room (Nat.le_of_ble_eq_true rfl)) d_Table_fillCell_119 ⟨Nat.le_of_ble_eq_true rfl, Nat.le_of_ble_eq_true rfl⟩) hP hD hS hA hC_11 [ad 5, ad 6, ad 8, ad 9, ad 13, ad 14, ad 15, ad 16, ad 17] rfl rfl (fun H1 h1 hk => (q_c (h1 0 _ rfl) (q_c (hk 1 _ rfl (by decide)) (q_c (h1 1 _ rfl) (q_c (h1 2 _ rfl) (q_c (hk 4 _ rfl (by decide)) (q_c (h1 3 _ rfl) (q_c (h1 4 _ rfl) (q_c (hk 7 _ rfl (by decide)) (q_c (hk 8 _ rfl (by decide)) q_n)))))))))) rfl (fun H locs hP hD hS => ?_)
        refine lv_iinc (v := (x7 + 1)) (lv' := [(7, .int (x7 + 1)), (0, .ref (ad 14)), (1, .int x1), (2, .int x2), (3, .int x3), (4, .long x4), (6, .int x6)]) hx hb d_Table_fillCell_122 hl (k := 6) rfl rfl (by decide) rfl (fun ls hl => ?_)
        refine lv_goto (tgt := 67) hx hb d_Table_fillCell_125 (by decide) ?_
        exact (ih).2 x1 x2 x3 x4 x6 (x7 + 1) v_tval_11 hf _ _ hP hD hS ls (lv_sub hl [1, 2, 3, 4, 5, 6, 0] rfl)
  unfold f_Table_fillCell at hf
  refine lv_iload_n hx hb d_Table_fillCell_0 rfl (lv_at hl 1 rfl) ?_
  refine lv_iload_n hx hb d_Table_fillCell_1 rfl (lv_at hl 2 rfl) ?_
  obtain ⟨r_12, hc_12, hf⟩ := q_mb hf
  refine q_pcall (W.runS (As := [.int p1, .int p2]) (rest := []) ⟨hx, hb, hml, hown, hts⟩ (c_Table_cell l D ad ki p1 p2 N r_12 hc_12) (va_cwS 2 hts (q_goodS ⟨m_353, m_354, m_60⟩ m_355) rfl rfl rfl (by decide +kernel) ⟨Nat.le_of_ble_eq_true rfl, Nat.le_of_ble_eq_true rfl⟩) (q_preSP (wc := []) hE hK hP [] rfl) rfl rfl hl.1 rfl (lv_room (Nat.le_of_ble_eq_true rfl)) d_Table_fillCell_2 ⟨Nat.le_of_ble_eq_true rfl, Nat.le_of_ble_eq_true rfl⟩) ?_
  refine lv_istore_n (lv' := [(3, .int r_12), (0, .ref (ad 14)), (1, .int p1), (2, .int p2)]) hx hb d_Table_fillCell_5 rfl hl (by decide) rfl (fun ls hl => ?_)
  refine lv_aload_n hx hb d_Table_fillCell_6 rfl (lv_at hl 1 rfl) ?_
  refine lv_iload_n hx hb d_Table_fillCell_7 rfl (lv_at hl 2 rfl) ?_
  refine lv_iload_n hx hb d_Table_fillCell_8 rfl (lv_at hl 3 rfl) ?_
  obtain ⟨r_13, hc_13, hf⟩ := q_mb hf
  refine q_pcall (W.runV (As := [.int p1, .int p2]) (rest := []) ⟨hx, hb, hml, hown, hts⟩ (c_Table_bestWithFiller l D ad ki n_tval n_tlon v_fill_least v_fill_most v_tval v_tlon p1 p2 N r_13 hc_13) (cwV 2 hts (q_goodV ⟨m_389, m_391, m_4, m_60⟩ m_392) rfl rfl rfl (by decide +kernel) ⟨Nat.le_of_ble_eq_true rfl, Nat.le_of_ble_eq_true rfl⟩) (q_preVP (wc := [(ad 13, .inr (3, [.int v_fill_least, .int v_fill_most])), (ad 14, .inr (4, [.ref (ad 2), .ref (ad 5), .ref (ad 13), .ref (ad 15), .ref (ad 16), .ref (ad 17)])), (ad 15, .inl (ki 1, n_tval, .inr (.inl v_tval))), (ad 17, .inl (ki 0, n_tlon, .inl v_tlon))]) hE hK hP [4, 5, 6, 8] rfl 5 4 rfl rfl) rfl rfl hl.1 rfl (lv_room (Nat.le_of_ble_eq_true rfl)) d_Table_fillCell_9 ⟨Nat.le_of_ble_eq_true rfl, Nat.le_of_ble_eq_true rfl⟩) ?_
  refine lv_lstore (lv' := [(4, .long r_13), (3, .int r_12), (0, .ref (ad 14)), (1, .int p1), (2, .int p2)]) hx hb d_Table_fillCell_12 hl (by decide) rfl (fun ls hl => ?_)
  refine lv_iconst (v := 0) hx hb d_Table_fillCell_14 (by decide) ?_
  refine lv_istore (lv' := [(6, .int 0), (4, .long r_13), (3, .int r_12), (0, .ref (ad 14)), (1, .int p1), (2, .int p2)]) hx hb d_Table_fillCell_15 hl (by decide) rfl (fun ls hl => ?_)
  exact (key N).1 p1 p2 r_12 r_13 0 v_tval hf _ _ hP hD hS ls (lv_sub hl [3, 4, 5, 2, 1, 0] rfl)
def f_Table_itemsThatFit_cut (N : Nat) (n_wpip : Nat) (n_iwid : Nat) (n_inee : Nat) (v_wall_steps : Int32) (v_wall_pipeCount : Int32) (v_wpip : Nat → Int32) (v_items_mustSet : Int32) (v_items_count : Int32) (v_iwid : Nat → Int32) (v_inee : Nat → Int32) : Nat → Nat → Int32 → Int32 → Int32 → Int32 → Option (Int32)
  | 0, _, _, _, _, _ => none
  | n + 1, t, x1, x2, x3, x4 => (if v_items_count ≤ x4 then (some x3) else (if x4 < 0 ∨ n_iwid ≤ Int32.toNatClampNeg x4 then none else (if x2 < (v_iwid (Int32.toNatClampNeg x4)) then (f_Table_itemsThatFit_cut N n_wpip n_iwid n_inee v_wall_steps v_wall_pipeCount v_wpip v_items_mustSet v_items_count v_iwid v_inee n 0 x1 x2 x3 (x4 + 1)) else (Option.bind (f_Items_isNeedMet N n_wpip n_iwid n_inee v_wall_steps v_wall_pipeCount v_wpip v_items_mustSet v_items_count v_iwid v_inee x4 x1) (fun r_4 => (if r_4 = true then (f_Table_itemsThatFit_cut N n_wpip n_iwid n_inee v_wall_steps v_wall_pipeCount v_wpip v_items_mustSet v_items_count v_iwid v_inee n 0 x1 x2 (x3 ||| (1 <<< (x4 &&& 31))) (x4 + 1)) else (f_Table_itemsThatFit_cut N n_wpip n_iwid n_inee v_wall_steps v_wall_pipeCount v_wpip v_items_mustSet v_items_count v_iwid v_inee n 0 x1 x2 x3 (x4 + 1))))))))
theorem f_Table_itemsThatFit_cut_0 (N : Nat) (n_wpip : Nat) (n_iwid : Nat) (n_inee : Nat) (v_wall_steps : Int32) (v_wall_pipeCount : Int32) (v_wpip : Nat → Int32) (v_items_mustSet : Int32) (v_items_count : Int32) (v_iwid : Nat → Int32) (v_inee : Nat → Int32) (n : Nat) (x1 : Int32) (x2 : Int32) (x3 : Int32) (x4 : Int32) : f_Table_itemsThatFit_cut N n_wpip n_iwid n_inee v_wall_steps v_wall_pipeCount v_wpip v_items_mustSet v_items_count v_iwid v_inee (n + 1) 0 x1 x2 x3 x4 = (if v_items_count ≤ x4 then (some x3) else (if x4 < 0 ∨ n_iwid ≤ Int32.toNatClampNeg x4 then none else (if x2 < (v_iwid (Int32.toNatClampNeg x4)) then (f_Table_itemsThatFit_cut N n_wpip n_iwid n_inee v_wall_steps v_wall_pipeCount v_wpip v_items_mustSet v_items_count v_iwid v_inee n 0 x1 x2 x3 (x4 + 1)) else (Option.bind (f_Items_isNeedMet N n_wpip n_iwid n_inee v_wall_steps v_wall_pipeCount v_wpip v_items_mustSet v_items_count v_iwid v_inee x4 x1) (fun r_4 => (if r_4 = true then (f_Table_itemsThatFit_cut N n_wpip n_iwid n_inee v_wall_steps v_wall_pipeCount v_wpip v_items_mustSet v_items_count v_iwid v_inee n 0 x1 x2 (x3 ||| (1 <<< (x4 &&& 31))) (x4 + 1)) else (f_Table_itemsThatFit_cut N n_wpip n_iwid n_inee v_wall_steps v_wall_pipeCount v_wpip v_items_mustSet v_items_count v_iwid v_inee n 0 x1 x2 x3 (x4 + 1)))))))) := rfl
def f_Table_itemsThatFit (N : Nat) (n_wpip : Nat) (n_iwid : Nat) (n_inee : Nat) (v_wall_steps : Int32) (v_wall_pipeCount : Int32) (v_wpip : Nat → Int32) (v_items_mustSet : Int32) (v_items_count : Int32) (v_iwid : Nat → Int32) (v_inee : Nat → Int32) (p1 : Int32) (p2 : Int32) : Option (Int32) := (f_Table_itemsThatFit_cut N n_wpip n_iwid n_inee v_wall_steps v_wall_pipeCount v_wpip v_items_mustSet v_items_count v_iwid v_inee N 0 p1 p2 0 0)
set_option maxRecDepth 100000 in
set_option maxHeartbeats 4000000 in
theorem c_Table_itemsThatFit (l : Launch) (D : va_G) (ad : Nat → Nat) (ki : Nat → ClassId) (n_wpip : Nat) (n_iwid : Nat) (n_inee : Nat) (v_wall_steps : Int32) (v_wall_pipeCount : Int32) (v_wpip : Nat → Int32) (v_items_mustSet : Int32) (v_items_count : Int32) (v_iwid : Nat → Int32) (v_inee : Nat → Int32) (p1 : Int32) (p2 : Int32) (N : Nat) (r : Int32) (hf : f_Table_itemsThatFit N n_wpip n_iwid n_inee v_wall_steps v_wall_pipeCount v_wpip v_items_mustSet v_items_count v_iwid v_inee p1 p2 = some r) : Met l y_Table_itemsThatFit w_Table_itemsThatFit { frames := 2, cells := 0, slots := 0, locals := 47 } (q_PcP [.ref (ad 14), .int p1, .int p2] D vwCl [(ad 2, .inr (1, [.int v_wall_steps, .ref (ad 3), .ref (ad 4), .int v_wall_pipeCount])), (ad 4, .inl (ki 0, n_wpip, .inl v_wpip)), (ad 5, .inr (2, [.ref (ad 6), .ref (ad 7), .ref (ad 8), .ref (ad 9), .ref (ad 10), .ref (ad 11), .ref (ad 12), .int v_items_mustSet, .int v_items_count])), (ad 6, .inl (ki 0, n_iwid, .inl v_iwid)), (ad 7, .inl (ki 0, n_inee, .inl v_inee)), (ad 14, .inr (4, [.ref (ad 2), .ref (ad 5), .ref (ad 13), .ref (ad 15), .ref (ad 16), .ref (ad 17)]))] (TYS ki)) (k2_QcV (.int r)) 0 0 (fun _ => False) := by
  refine Met.ofW (cc := b_Table_itemsThatFit) (maxL := 5) (ret := (some .int)) (by decide) rfl ?_
  intro p e s m args below meth c s₁ B hml hv
  obtain ⟨rfl, hP, hK, hE⟩ := hv
  have hx := B.exec
  have hb := B.bytes
  have hr := B.returns
  have hts := atoms_spec (ws := w_Table_itemsThatFit) B.pre
  have hown : s.vm.findClass R_Table = some m.cls := findClass_of_methodNamed B.named
  have hlocks := B.notSynchronized
  have hn_Items : ∀ w ∈ u_ws R_Items F_Items 9, w ∈ w_Table_itemsThatFit := (fun w h => List.mem_cons_of_mem _ (i_Items w h))
  have hn_Table : ∀ w ∈ u_ws R_Table F_Table 6, w ∈ w_Table_itemsThatFit := (fun w h => List.mem_cons_of_mem _ (i_Table w h))
  have hL9 := hts (.fieldLink R_Table 9 "RoomFills$Table" "wall" "LRoomFills$Wall;") (List.mem_cons_of_mem _ m_191)
  have hL15 := hts (.fieldLink R_Table 15 "RoomFills$Table" "items" "LRoomFills$Items;") (List.mem_cons_of_mem _ m_192)
  have hL64 := hts (.fieldLink R_Table 64 "RoomFills$Items" "count" "I") (List.mem_cons_of_mem _ m_140)
  have hL96 := hts (.fieldLink R_Table 96 "RoomFills$Items" "width" "[I") (List.mem_cons_of_mem _ m_120)
  replace hP : va_P D vwCl [(ad 2, .inr (1, [.int v_wall_steps, .ref (ad 3), .ref (ad 4), .int v_wall_pipeCount])), (ad 4, .inl (ki 0, n_wpip, .inl v_wpip)), (ad 5, .inr (2, [.ref (ad 6), .ref (ad 7), .ref (ad 8), .ref (ad 9), .ref (ad 10), .ref (ad 11), .ref (ad 12), .int v_items_mustSet, .int v_items_count])), (ad 6, .inl (ki 0, n_iwid, .inl v_iwid)), (ad 7, .inl (ki 0, n_inee, .inl v_inee)), (ad 14, .inr (4, [.ref (ad 2), .ref (ad 5), .ref (ad 13), .ref (ad 15), .ref (ad 16), .ref (ad 17)]))] s.heap := hP
  have hl := lv_entry ([.ref (ad 14), .int p1, .int p2]) (n := 5) (Nat.le_of_ble_eq_true rfl)
  rw [lg_entry_eq]
  generalize (lg_sl ([.ref (ad 14), .int p1, .int p2]) ++ List.replicate (5 - (lg_sl ([.ref (ad 14), .int p1, .int p2])).length) Slot.unset).toArray = ls at hl ⊢
  replace hl : lv_has ls 5 [(0, .ref (ad 14)), (1, .int p1), (2, .int p2)] := hl
  have key : ∀ n : Nat, (∀ (x1 : Int32) (x2 : Int32) (x3 : Int32) (x4 : Int32), f_Table_itemsThatFit_cut N n_wpip n_iwid n_inee v_wall_steps v_wall_pipeCount v_wpip v_items_mustSet v_items_count v_iwid v_inee n 0 x1 x2 x3 x4 = some r → ∀ (ls : Array Slot), lv_has ls 5 [(0, .ref (ad 14)), (1, .int x1), (2, .int x2), (3, .int x3), (4, .int x4)] → W p l e (headSpec w_Table_itemsThatFit { frames := 2, cells := 0, slots := 0, locals := 47 }).room s m ([.ref (ad 14), .int p1, .int p2] : List Value).toArray below meth c s.heap [] 0 0 (MQ below (k2_QcV (.int r)) ([.ref (ad 14), .int p1, .int p2] : List Value).toArray s 0 0 (fun _ => False)) (F0 m 5 ls [])) := by
    intro n
    induction n with
    | zero =>
      exact fun x1 x2 x3 x4 hf => (nomatch (show none = some _ from hf))
    | succ n ih =>
      intro x1 x2 x3 x4 hf ls hl
      rw [f_Table_itemsThatFit_cut_0] at hf
      refine lv_iload hx hb d_Table_itemsThatFit_5 (lv_at hl 4 rfl) ?_
      refine lv_aload_n hx hb d_Table_itemsThatFit_7 rfl (lv_at hl 0 rfl) ?_
      refine va_get (D := D) (ci := 4) (v := .ref (ad 5)) (C := R_Table) (T := F_Table) (N := 6) hx hb hts hn_Table hown hK hP 5 rfl rfl 1 (by decide) hL15 (fun _ h9 => h9) rfl d_Table_itemsThatFit_8 ?_
      refine va_get (D := D) (ci := 2) (v := .int v_items_count) (C := R_Items) (T := F_Items) (N := 9) hx hb hts hn_Items hown hK hP 2 rfl rfl 8 (by decide) hL64 (fun _ h9 => h9) rfl d_Table_itemsThatFit_11 ?_
      refine lv_icmp_ge (tgt := 61) hx hb d_Table_itemsThatFit_14 (by decide) (fun c_1 => ?_) (fun c_1 => ?_)
      · replace hf := q_it hf c_1
        refine lv_iload_n hx hb d_Table_itemsThatFit_61 rfl (lv_at hl 3 rfl) ?_
        cases hf
        first | exact W.iret (v := x3) hx hb hr (fun t ht hW => ⟨rfl, ht⟩) (fun q h => nomatch h) d_Table_itemsThatFit_62 | exact W.iret (v := r) hx hb hr (fun t ht hW => ⟨rfl, ht⟩) (fun q h => nomatch h) d_Table_itemsThatFit_62
      replace hf := q_ie hf c_1
      refine lv_aload_n hx hb d_Table_itemsThatFit_17 rfl (lv_at hl 0 rfl) ?_
      refine va_get (D := D) (ci := 4) (v := .ref (ad 5)) (C := R_Table) (T := F_Table) (N := 6) hx hb hts hn_Table hown hK hP 5 rfl rfl 1 (by decide) hL15 (fun _ h9 => h9) rfl d_Table_itemsThatFit_18 ?_
      refine va_get (D := D) (ci := 2) (v := .ref (ad 6)) (C := R_Items) (T := F_Items) (N := 9) hx hb hts hn_Items hown hK hP 2 rfl rfl 0 (by decide) hL96 (fun _ h9 => h9) rfl d_Table_itemsThatFit_21 ?_
      refine lv_iload hx hb d_Table_itemsThatFit_24 (lv_at hl 4 rfl) ?_
      obtain ⟨hi_2, hf⟩ := q_ck hf
      refine va_iald hx hb hK hP 3 0 rfl rfl hi_2 d_Table_itemsThatFit_26 ?_
      refine lv_iload_n hx hb d_Table_itemsThatFit_27 rfl (lv_at hl 2 rfl) ?_
      refine lv_icmp_gt (tgt := 55) hx hb d_Table_itemsThatFit_28 (by decide) (fun c_3 => ?_) (fun c_3 => ?_)
      · replace hf := q_it hf c_3
        refine lv_iinc (v := (x4 + 1)) (lv' := [(4, .int (x4 + 1)), (0, .ref (ad 14)), (1, .int x1), (2, .int x2), (3, .int x3)]) hx hb d_Table_itemsThatFit_55 hl (k := 4) rfl rfl (by decide) rfl (fun ls hl => ?_)
        refine lv_goto (tgt := 5) hx hb d_Table_itemsThatFit_58 (by decide) ?_
        exact (ih) x1 x2 x3 (x4 + 1) hf ls (lv_sub hl [1, 2, 3, 4, 0] rfl)
      replace hf := q_ie hf c_3
      refine lv_aload_n hx hb d_Table_itemsThatFit_31 rfl (lv_at hl 0 rfl) ?_
      refine va_get (D := D) (ci := 4) (v := .ref (ad 5)) (C := R_Table) (T := F_Table) (N := 6) hx hb hts hn_Table hown hK hP 5 rfl rfl 1 (by decide) hL15 (fun _ h9 => h9) rfl d_Table_itemsThatFit_32 ?_
      refine lv_iload hx hb d_Table_itemsThatFit_35 (lv_at hl 4 rfl) ?_
      refine lv_iload_n hx hb d_Table_itemsThatFit_37 rfl (lv_at hl 1 rfl) ?_
      refine lv_aload_n hx hb d_Table_itemsThatFit_38 rfl (lv_at hl 0 rfl) ?_
      refine va_get (D := D) (ci := 4) (v := .ref (ad 2)) (C := R_Table) (T := F_Table) (N := 6) hx hb hts hn_Table hown hK hP 5 rfl rfl 0 (by decide) hL9 (fun _ h9 => h9) rfl d_Table_itemsThatFit_39 ?_
      obtain ⟨r_4, hc_4, hf⟩ := q_mb hf
      refine q_pcall (W.runV (As := [.int x4, .int x1, .ref (ad 2)]) (rest := []) ⟨hx, hb, hml, hown, hts⟩ (c_Items_isNeedMet l D ad ki n_wpip n_iwid n_inee v_wall_steps v_wall_pipeCount v_wpip v_items_mustSet v_items_count v_iwid v_inee x4 x1 N r_4 hc_4) (cwV 3 hts (q_goodV ⟨m_376, m_377, m_378, m_57⟩ m_379) rfl rfl rfl (by decide +kernel) ⟨Nat.le_of_ble_eq_true rfl, Nat.le_of_ble_eq_true rfl⟩) (q_preVP (wc := [(ad 2, .inr (1, [.int v_wall_steps, .ref (ad 3), .ref (ad 4), .int v_wall_pipeCount])), (ad 4, .inl (ki 0, n_wpip, .inl v_wpip)), (ad 5, .inr (2, [.ref (ad 6), .ref (ad 7), .ref (ad 8), .ref (ad 9), .ref (ad 10), .ref (ad 11), .ref (ad 12), .int v_items_mustSet, .int v_items_count])), (ad 6, .inl (ki 0, n_iwid, .inl v_iwid)), (ad 7, .inl (ki 0, n_inee, .inl v_inee))]) hE hK hP [0, 1, 2, 3, 4] rfl 2 2 rfl rfl) rfl rfl hl.1 rfl (lv_room (Nat.le_of_ble_eq_true rfl)) d_Table_itemsThatFit_42 ⟨Nat.le_of_ble_eq_true rfl, Nat.le_of_ble_eq_true rfl⟩) ?_
      refine zv_eq (tgt := 55) hx hb d_Table_itemsThatFit_45 (by decide) (fun c_5 => ?_) (fun c_5 => ?_)
      · replace hf := q_ie hf c_5
        refine lv_iinc (v := (x4 + 1)) (lv' := [(4, .int (x4 + 1)), (0, .ref (ad 14)), (1, .int x1), (2, .int x2), (3, .int x3)]) hx hb d_Table_itemsThatFit_55 hl (k := 4) rfl rfl (by decide) rfl (fun ls hl => ?_)
        refine lv_goto (tgt := 5) hx hb d_Table_itemsThatFit_58 (by decide) ?_
        exact (ih) x1 x2 x3 (x4 + 1) hf ls (lv_sub hl [1, 2, 3, 4, 0] rfl)
      replace hf := q_it hf c_5
      refine lv_iload_n hx hb d_Table_itemsThatFit_48 rfl (lv_at hl 3 rfl) ?_
      refine lv_iconst (v := 1) hx hb d_Table_itemsThatFit_49 (by decide) ?_
      refine lv_iload hx hb d_Table_itemsThatFit_50 (lv_at hl 4 rfl) ?_
      refine lv_ishl hx hb d_Table_itemsThatFit_52 ?_
      refine lv_ior hx hb d_Table_itemsThatFit_53 ?_
      refine lv_istore_n (lv' := [(3, .int (x3 ||| (1 <<< (x4 &&& 31)))), (0, .ref (ad 14)), (1, .int x1), (2, .int x2), (4, .int x4)]) hx hb d_Table_itemsThatFit_54 rfl hl (by decide) rfl (fun ls hl => ?_)
      refine lv_iinc (v := (x4 + 1)) (lv' := [(4, .int (x4 + 1)), (3, .int (x3 ||| (1 <<< (x4 &&& 31)))), (0, .ref (ad 14)), (1, .int x1), (2, .int x2)]) hx hb d_Table_itemsThatFit_55 hl (k := 4) rfl rfl (by decide) rfl (fun ls hl => ?_)
      refine lv_goto (tgt := 5) hx hb d_Table_itemsThatFit_58 (by decide) ?_
      exact (ih) x1 x2 (x3 ||| (1 <<< (x4 &&& 31))) (x4 + 1) hf ls (lv_sub hl [2, 3, 4, 1, 0] rfl)
  unfold f_Table_itemsThatFit at hf
  refine lv_iconst (v := 0) hx hb d_Table_itemsThatFit_0 (by decide) ?_
  refine lv_istore_n (lv' := [(3, .int 0), (0, .ref (ad 14)), (1, .int p1), (2, .int p2)]) hx hb d_Table_itemsThatFit_1 rfl hl (by decide) rfl (fun ls hl => ?_)
  refine lv_iconst (v := 0) hx hb d_Table_itemsThatFit_2 (by decide) ?_
  refine lv_istore (lv' := [(4, .int 0), (3, .int 0), (0, .ref (ad 14)), (1, .int p1), (2, .int p2)]) hx hb d_Table_itemsThatFit_3 hl (by decide) rfl (fun ls hl => ?_)
  exact (key N) p1 p2 0 0 hf ls (lv_sub hl [2, 3, 4, 1, 0] rfl)
def f_Table_fillStep_cut (N : Nat) (n_wfree : Nat) (n_wpip : Nat) (n_iwid : Nat) (n_inee : Nat) (n_ibar : Nat) (n_inea : Nat) (n_iswi : Nat) (n_tval : Nat) (n_tfit : Nat) (n_tlon : Nat) (v_wall_steps : Int32) (v_wall_pipeCount : Int32) (v_wfree : Nat → Int32) (v_wpip : Nat → Int32) (v_items_mustSet : Int32) (v_items_count : Int32) (v_iwid : Nat → Int32) (v_inee : Nat → Int32) (v_ibar : Nat → Int32) (v_inea : Nat → Int64) (v_iswi : Nat → Int32) (v_fill_least : Int32) (v_fill_most : Int32) : Nat → Nat → Int32 → Int32 → Int32 → Int32 → (Nat → Int64) → (Nat → Int32) → (Nat → Int32) → Option ((Nat → Int64) × (Nat → Int32) × (Nat → Int32))
  | 0, _, _, _, _, _, _, _, _ => none
  | n + 1, t, x1, x2, x3, x4, v_tval, v_tfit, v_tlon => (if (1 <<< (v_items_count &&& 31)) ≤ x4 then (some (v_tval, v_tfit, v_tlon)) else (if x4 < 0 ∨ n_iswi ≤ Int32.toNatClampNeg x4 then none else (if x2 < (v_iswi (Int32.toNatClampNeg x4)) then (f_Table_fillStep_cut N n_wfree n_wpip n_iwid n_inee n_ibar n_inea n_iswi n_tval n_tfit n_tlon v_wall_steps v_wall_pipeCount v_wfree v_wpip v_items_mustSet v_items_count v_iwid v_inee v_ibar v_inea v_iswi v_fill_least v_fill_most n 0 x1 x2 x3 (x4 + 1) v_tval v_tfit v_tlon) else (Option.bind (f_Table_fillCell N n_iwid n_ibar n_inea n_tval n_tfit n_tlon v_items_mustSet v_items_count v_iwid v_ibar v_inea v_fill_least v_fill_most v_tval v_tfit v_tlon x1 x4) (fun v_tval_4 => (f_Table_fillStep_cut N n_wfree n_wpip n_iwid n_inee n_ibar n_inea n_iswi n_tval n_tfit n_tlon v_wall_steps v_wall_pipeCount v_wfree v_wpip v_items_mustSet v_items_count v_iwid v_inee v_ibar v_inea v_iswi v_fill_least v_fill_most n 0 x1 x2 x3 (x4 + 1) v_tval_4 v_tfit v_tlon))))))
theorem f_Table_fillStep_cut_0 (N : Nat) (n_wfree : Nat) (n_wpip : Nat) (n_iwid : Nat) (n_inee : Nat) (n_ibar : Nat) (n_inea : Nat) (n_iswi : Nat) (n_tval : Nat) (n_tfit : Nat) (n_tlon : Nat) (v_wall_steps : Int32) (v_wall_pipeCount : Int32) (v_wfree : Nat → Int32) (v_wpip : Nat → Int32) (v_items_mustSet : Int32) (v_items_count : Int32) (v_iwid : Nat → Int32) (v_inee : Nat → Int32) (v_ibar : Nat → Int32) (v_inea : Nat → Int64) (v_iswi : Nat → Int32) (v_fill_least : Int32) (v_fill_most : Int32) (n : Nat) (x1 : Int32) (x2 : Int32) (x3 : Int32) (x4 : Int32) (v_tval : Nat → Int64) (v_tfit : Nat → Int32) (v_tlon : Nat → Int32) : f_Table_fillStep_cut N n_wfree n_wpip n_iwid n_inee n_ibar n_inea n_iswi n_tval n_tfit n_tlon v_wall_steps v_wall_pipeCount v_wfree v_wpip v_items_mustSet v_items_count v_iwid v_inee v_ibar v_inea v_iswi v_fill_least v_fill_most (n + 1) 0 x1 x2 x3 x4 v_tval v_tfit v_tlon = (if (1 <<< (v_items_count &&& 31)) ≤ x4 then (some (v_tval, v_tfit, v_tlon)) else (if x4 < 0 ∨ n_iswi ≤ Int32.toNatClampNeg x4 then none else (if x2 < (v_iswi (Int32.toNatClampNeg x4)) then (f_Table_fillStep_cut N n_wfree n_wpip n_iwid n_inee n_ibar n_inea n_iswi n_tval n_tfit n_tlon v_wall_steps v_wall_pipeCount v_wfree v_wpip v_items_mustSet v_items_count v_iwid v_inee v_ibar v_inea v_iswi v_fill_least v_fill_most n 0 x1 x2 x3 (x4 + 1) v_tval v_tfit v_tlon) else (Option.bind (f_Table_fillCell N n_iwid n_ibar n_inea n_tval n_tfit n_tlon v_items_mustSet v_items_count v_iwid v_ibar v_inea v_fill_least v_fill_most v_tval v_tfit v_tlon x1 x4) (fun v_tval_4 => (f_Table_fillStep_cut N n_wfree n_wpip n_iwid n_inee n_ibar n_inea n_iswi n_tval n_tfit n_tlon v_wall_steps v_wall_pipeCount v_wfree v_wpip v_items_mustSet v_items_count v_iwid v_inee v_ibar v_inea v_iswi v_fill_least v_fill_most n 0 x1 x2 x3 (x4 + 1) v_tval_4 v_tfit v_tlon)))))) := rfl
def f_Table_fillStep (N : Nat) (n_wfree : Nat) (n_wpip : Nat) (n_iwid : Nat) (n_inee : Nat) (n_ibar : Nat) (n_inea : Nat) (n_iswi : Nat) (n_tval : Nat) (n_tfit : Nat) (n_tlon : Nat) (v_wall_steps : Int32) (v_wall_pipeCount : Int32) (v_wfree : Nat → Int32) (v_wpip : Nat → Int32) (v_items_mustSet : Int32) (v_items_count : Int32) (v_iwid : Nat → Int32) (v_inee : Nat → Int32) (v_ibar : Nat → Int32) (v_inea : Nat → Int64) (v_iswi : Nat → Int32) (v_fill_least : Int32) (v_fill_most : Int32) (v_tval : Nat → Int64) (v_tfit : Nat → Int32) (v_tlon : Nat → Int32) (p1 : Int32) (p2 : Int32) : Option ((Nat → Int64) × (Nat → Int32) × (Nat → Int32)) := (Option.bind (f_Wall_stepsBeforeFree N n_wfree v_wall_steps v_wall_pipeCount v_wfree p1) (fun r_5 => (Option.bind (f_Table_itemsThatFit N n_wpip n_iwid n_inee v_wall_steps v_wall_pipeCount v_wpip v_items_mustSet v_items_count v_iwid v_inee p1 r_5) (fun r_6 => (if p1 < 0 ∨ n_tfit ≤ Int32.toNatClampNeg p1 then none else (if p1 < 0 ∨ n_tlon ≤ Int32.toNatClampNeg p1 then none else (f_Table_fillStep_cut N n_wfree n_wpip n_iwid n_inee n_ibar n_inea n_iswi n_tval n_tfit n_tlon v_wall_steps v_wall_pipeCount v_wfree v_wpip v_items_mustSet v_items_count v_iwid v_inee v_ibar v_inea v_iswi v_fill_least v_fill_most N 0 p1 p2 r_5 0 v_tval (upd v_tfit (Int32.toNatClampNeg p1) r_6) (upd v_tlon (Int32.toNatClampNeg p1) (if r_5 < v_fill_most then r_5 else v_fill_most)))))))))
set_option maxRecDepth 100000 in
set_option maxHeartbeats 4000000 in
theorem c_Table_fillStep (l : Launch) (D : va_G) (ad : Nat → Nat) (ki : Nat → ClassId) (n_wfree : Nat) (n_wpip : Nat) (n_iwid : Nat) (n_inee : Nat) (n_ibar : Nat) (n_inea : Nat) (n_iswi : Nat) (n_tval : Nat) (n_tfit : Nat) (n_tlon : Nat) (v_wall_steps : Int32) (v_wall_pipeCount : Int32) (v_wfree : Nat → Int32) (v_wpip : Nat → Int32) (v_items_mustSet : Int32) (v_items_count : Int32) (v_iwid : Nat → Int32) (v_inee : Nat → Int32) (v_ibar : Nat → Int32) (v_inea : Nat → Int64) (v_iswi : Nat → Int32) (v_fill_least : Int32) (v_fill_most : Int32) (v_tval : Nat → Int64) (v_tfit : Nat → Int32) (v_tlon : Nat → Int32) (p1 : Int32) (p2 : Int32) (N : Nat) (sz : Nat) (ov_tval : Nat → Int64) (ov_tfit : Nat → Int32) (ov_tlon : Nat → Int32) (hf : f_Table_fillStep N n_wfree n_wpip n_iwid n_inee n_ibar n_inea n_iswi n_tval n_tfit n_tlon v_wall_steps v_wall_pipeCount v_wfree v_wpip v_items_mustSet v_items_count v_iwid v_inee v_ibar v_inea v_iswi v_fill_least v_fill_most v_tval v_tfit v_tlon p1 p2 = some (ov_tval, ov_tfit, ov_tlon)) : Met l y_Table_fillStep w_Table_fillStep { frames := 3, cells := 0, slots := 0, locals := 76 } (q_PcM [.ref (ad 14), .int p1, .int p2] D vwCl [(ad 2, .inr (1, [.int v_wall_steps, .ref (ad 3), .ref (ad 4), .int v_wall_pipeCount])), (ad 3, .inl (ki 2, n_wfree, .inl v_wfree)), (ad 4, .inl (ki 0, n_wpip, .inl v_wpip)), (ad 5, .inr (2, [.ref (ad 6), .ref (ad 7), .ref (ad 8), .ref (ad 9), .ref (ad 10), .ref (ad 11), .ref (ad 12), .int v_items_mustSet, .int v_items_count])), (ad 6, .inl (ki 0, n_iwid, .inl v_iwid)), (ad 7, .inl (ki 0, n_inee, .inl v_inee)), (ad 8, .inl (ki 0, n_ibar, .inl v_ibar)), (ad 9, .inl (ki 1, n_inea, .inr (.inl v_inea))), (ad 10, .inl (ki 0, n_iswi, .inl v_iswi)), (ad 13, .inr (3, [.int v_fill_least, .int v_fill_most])), (ad 14, .inr (4, [.ref (ad 2), .ref (ad 5), .ref (ad 13), .ref (ad 15), .ref (ad 16), .ref (ad 17)])), (ad 15, .inl (ki 1, n_tval, .inr (.inl v_tval))), (ad 16, .inl (ki 0, n_tfit, .inl v_tfit)), (ad 17, .inl (ki 0, n_tlon, .inl v_tlon))] (TYS ki) sz) (q_Qm (none) D vwCl [(ad 2, .inr (1, [.int v_wall_steps, .ref (ad 3), .ref (ad 4), .int v_wall_pipeCount])), (ad 3, .inl (ki 2, n_wfree, .inl v_wfree)), (ad 4, .inl (ki 0, n_wpip, .inl v_wpip)), (ad 5, .inr (2, [.ref (ad 6), .ref (ad 7), .ref (ad 8), .ref (ad 9), .ref (ad 10), .ref (ad 11), .ref (ad 12), .int v_items_mustSet, .int v_items_count])), (ad 6, .inl (ki 0, n_iwid, .inl v_iwid)), (ad 7, .inl (ki 0, n_inee, .inl v_inee)), (ad 8, .inl (ki 0, n_ibar, .inl v_ibar)), (ad 9, .inl (ki 1, n_inea, .inr (.inl v_inea))), (ad 10, .inl (ki 0, n_iswi, .inl v_iswi)), (ad 13, .inr (3, [.int v_fill_least, .int v_fill_most])), (ad 14, .inr (4, [.ref (ad 2), .ref (ad 5), .ref (ad 13), .ref (ad 15), .ref (ad 16), .ref (ad 17)])), (ad 15, .inl (ki 1, n_tval, .inr (.inl ov_tval))), (ad 16, .inl (ki 0, n_tfit, .inl ov_tfit)), (ad 17, .inl (ki 0, n_tlon, .inl ov_tlon))] (va_A [(ad 2, .inr (1, [.int v_wall_steps, .ref (ad 3), .ref (ad 4), .int v_wall_pipeCount])), (ad 3, .inl (ki 2, n_wfree, .inl v_wfree)), (ad 4, .inl (ki 0, n_wpip, .inl v_wpip)), (ad 5, .inr (2, [.ref (ad 6), .ref (ad 7), .ref (ad 8), .ref (ad 9), .ref (ad 10), .ref (ad 11), .ref (ad 12), .int v_items_mustSet, .int v_items_count])), (ad 6, .inl (ki 0, n_iwid, .inl v_iwid)), (ad 7, .inl (ki 0, n_inee, .inl v_inee)), (ad 8, .inl (ki 0, n_ibar, .inl v_ibar)), (ad 9, .inl (ki 1, n_inea, .inr (.inl v_inea))), (ad 10, .inl (ki 0, n_iswi, .inl v_iswi)), (ad 13, .inr (3, [.int v_fill_least, .int v_fill_most])), (ad 14, .inr (4, [.ref (ad 2), .ref (ad 5), .ref (ad 13), .ref (ad 15), .ref (ad 16), .ref (ad 17)])), (ad 15, .inl (ki 1, n_tval, .inr (.inl v_tval))), (ad 16, .inl (ki 0, n_tfit, .inl v_tfit)), (ad 17, .inl (ki 0, n_tlon, .inl v_tlon))] sz)) 0 0 (va_A [(ad 2, .inr (1, [.int v_wall_steps, .ref (ad 3), .ref (ad 4), .int v_wall_pipeCount])), (ad 3, .inl (ki 2, n_wfree, .inl v_wfree)), (ad 4, .inl (ki 0, n_wpip, .inl v_wpip)), (ad 5, .inr (2, [.ref (ad 6), .ref (ad 7), .ref (ad 8), .ref (ad 9), .ref (ad 10), .ref (ad 11), .ref (ad 12), .int v_items_mustSet, .int v_items_count])), (ad 6, .inl (ki 0, n_iwid, .inl v_iwid)), (ad 7, .inl (ki 0, n_inee, .inl v_inee)), (ad 8, .inl (ki 0, n_ibar, .inl v_ibar)), (ad 9, .inl (ki 1, n_inea, .inr (.inl v_inea))), (ad 10, .inl (ki 0, n_iswi, .inl v_iswi)), (ad 13, .inr (3, [.int v_fill_least, .int v_fill_most])), (ad 14, .inr (4, [.ref (ad 2), .ref (ad 5), .ref (ad 13), .ref (ad 15), .ref (ad 16), .ref (ad 17)])), (ad 15, .inl (ki 1, n_tval, .inr (.inl v_tval))), (ad 16, .inl (ki 0, n_tfit, .inl v_tfit)), (ad 17, .inl (ki 0, n_tlon, .inl v_tlon))] sz) := by
  refine Met.ofW (cc := b_Table_fillStep) (maxL := 5) (ret := none) (by decide) rfl ?_
  intro p e s m args below meth c s₁ B hml hv
  obtain ⟨rfl, hsz, hP, hK, hD0, hE⟩ := hv
  have hx := B.exec
  have hb := B.bytes
  have hr := B.returns
  have hts := atoms_spec (ws := w_Table_fillStep) B.pre
  have hown : s.vm.findClass R_Table = some m.cls := findClass_of_methodNamed B.named
  have hlocks := B.notSynchronized
  have hn_Fillers : ∀ w ∈ u_ws R_Fillers F_Fillers 2, w ∈ w_Table_fillStep := (fun w h => List.mem_cons_of_mem _ (i_Fillers w h))
  have hn_Items : ∀ w ∈ u_ws R_Items F_Items 9, w ∈ w_Table_fillStep := (fun w h => List.mem_cons_of_mem _ (i_Items w h))
  have hn_Table : ∀ w ∈ u_ws R_Table F_Table 6, w ∈ w_Table_fillStep := (fun w h => List.mem_cons_of_mem _ (i_Table w h))
  have hL9 := hts (.fieldLink R_Table 9 "RoomFills$Table" "wall" "LRoomFills$Wall;") (List.mem_cons_of_mem _ m_191)
  have hL15 := hts (.fieldLink R_Table 15 "RoomFills$Table" "items" "LRoomFills$Items;") (List.mem_cons_of_mem _ m_192)
  have hL19 := hts (.fieldLink R_Table 19 "RoomFills$Table" "fillers" "LRoomFills$Fillers;") (List.mem_cons_of_mem _ m_193)
  have hL33 := hts (.fieldLink R_Table 33 "RoomFills$Table" "fittingSet" "[I") (List.mem_cons_of_mem _ m_196)
  have hL37 := hts (.fieldLink R_Table 37 "RoomFills$Table" "longestFiller" "[I") (List.mem_cons_of_mem _ m_197)
  have hL64 := hts (.fieldLink R_Table 64 "RoomFills$Items" "count" "I") (List.mem_cons_of_mem _ m_140)
  have hL80 := hts (.fieldLink R_Table 80 "RoomFills$Fillers" "most" "I") (List.mem_cons_of_mem _ m_173)
  have hL90 := hts (.fieldLink R_Table 90 "RoomFills$Items" "setWidth" "[I") (List.mem_cons_of_mem _ m_129)
  subst hsz
  have hD := hD0.self (sz := s.heap.size)
  generalize hAe : va_A [(ad 2, .inr (1, [.int v_wall_steps, .ref (ad 3), .ref (ad 4), .int v_wall_pipeCount])), (ad 3, .inl (ki 2, n_wfree, .inl v_wfree)), (ad 4, .inl (ki 0, n_wpip, .inl v_wpip)), (ad 5, .inr (2, [.ref (ad 6), .ref (ad 7), .ref (ad 8), .ref (ad 9), .ref (ad 10), .ref (ad 11), .ref (ad 12), .int v_items_mustSet, .int v_items_count])), (ad 6, .inl (ki 0, n_iwid, .inl v_iwid)), (ad 7, .inl (ki 0, n_inee, .inl v_inee)), (ad 8, .inl (ki 0, n_ibar, .inl v_ibar)), (ad 9, .inl (ki 1, n_inea, .inr (.inl v_inea))), (ad 10, .inl (ki 0, n_iswi, .inl v_iswi)), (ad 13, .inr (3, [.int v_fill_least, .int v_fill_most])), (ad 14, .inr (4, [.ref (ad 2), .ref (ad 5), .ref (ad 13), .ref (ad 15), .ref (ad 16), .ref (ad 17)])), (ad 15, .inl (ki 1, n_tval, .inr (.inl v_tval))), (ad 16, .inl (ki 0, n_tfit, .inl v_tfit)), (ad 17, .inl (ki 0, n_tlon, .inl v_tlon))] s.heap.size = A at hD ⊢
  have hA : ∀ q : Nat, s.heap.size ≤ q → A q := fun q h => by rw [← hAe]; exact Or.inr h
  have hS : va_S A s.heap s.heap [] := va_S.rf
  replace hP : va_P D vwCl [(ad 2, .inr (1, [.int v_wall_steps, .ref (ad 3), .ref (ad 4), .int v_wall_pipeCount])), (ad 3, .inl (ki 2, n_wfree, .inl v_wfree)), (ad 4, .inl (ki 0, n_wpip, .inl v_wpip)), (ad 5, .inr (2, [.ref (ad 6), .ref (ad 7), .ref (ad 8), .ref (ad 9), .ref (ad 10), .ref (ad 11), .ref (ad 12), .int v_items_mustSet, .int v_items_count])), (ad 6, .inl (ki 0, n_iwid, .inl v_iwid)), (ad 7, .inl (ki 0, n_inee, .inl v_inee)), (ad 8, .inl (ki 0, n_ibar, .inl v_ibar)), (ad 9, .inl (ki 1, n_inea, .inr (.inl v_inea))), (ad 10, .inl (ki 0, n_iswi, .inl v_iswi)), (ad 13, .inr (3, [.int v_fill_least, .int v_fill_most])), (ad 14, .inr (4, [.ref (ad 2), .ref (ad 5), .ref (ad 13), .ref (ad 15), .ref (ad 16), .ref (ad 17)])), (ad 15, .inl (ki 1, n_tval, .inr (.inl v_tval))), (ad 16, .inl (ki 0, n_tfit, .inl v_tfit)), (ad 17, .inl (ki 0, n_tlon, .inl v_tlon))] s.heap := hP
  have hl := lv_entry ([.ref (ad 14), .int p1, .int p2]) (n := 5) (Nat.le_of_ble_eq_true rfl)
  rw [lg_entry_eq]
  generalize (lg_sl ([.ref (ad 14), .int p1, .int p2]) ++ List.replicate (5 - (lg_sl ([.ref (ad 14), .int p1, .int p2])).length) Slot.unset).toArray = ls at hl ⊢
  replace hl : lv_has ls 5 [(0, .ref (ad 14)), (1, .int p1), (2, .int p2)] := hl
  have key : ∀ n : Nat, (∀ (x1 : Int32) (x2 : Int32) (x3 : Int32) (x4 : Int32) (v_tval : Nat → Int64) (v_tfit : Nat → Int32) (v_tlon : Nat → Int32), f_Table_fillStep_cut N n_wfree n_wpip n_iwid n_inee n_ibar n_inea n_iswi n_tval n_tfit n_tlon v_wall_steps v_wall_pipeCount v_wfree v_wpip v_items_mustSet v_items_count v_iwid v_inee v_ibar v_inea v_iswi v_fill_least v_fill_most n 0 x1 x2 x3 x4 v_tval v_tfit v_tlon = some (ov_tval, ov_tfit, ov_tlon) → ∀ (H : Heap) (locs : List Loc), va_P D vwCl [(ad 2, .inr (1, [.int v_wall_steps, .ref (ad 3), .ref (ad 4), .int v_wall_pipeCount])), (ad 3, .inl (ki 2, n_wfree, .inl v_wfree)), (ad 4, .inl (ki 0, n_wpip, .inl v_wpip)), (ad 5, .inr (2, [.ref (ad 6), .ref (ad 7), .ref (ad 8), .ref (ad 9), .ref (ad 10), .ref (ad 11), .ref (ad 12), .int v_items_mustSet, .int v_items_count])), (ad 6, .inl (ki 0, n_iwid, .inl v_iwid)), (ad 7, .inl (ki 0, n_inee, .inl v_inee)), (ad 8, .inl (ki 0, n_ibar, .inl v_ibar)), (ad 9, .inl (ki 1, n_inea, .inr (.inl v_inea))), (ad 10, .inl (ki 0, n_iswi, .inl v_iswi)), (ad 13, .inr (3, [.int v_fill_least, .int v_fill_most])), (ad 14, .inr (4, [.ref (ad 2), .ref (ad 5), .ref (ad 13), .ref (ad 15), .ref (ad 16), .ref (ad 17)])), (ad 15, .inl (ki 1, n_tval, .inr (.inl v_tval))), (ad 16, .inl (ki 0, n_tfit, .inl v_tfit)), (ad 17, .inl (ki 0, n_tlon, .inl v_tlon))] H → va_D A [(ad 2, .inr (1, [.int v_wall_steps, .ref (ad 3), .ref (ad 4), .int v_wall_pipeCount])), (ad 3, .inl (ki 2, n_wfree, .inl v_wfree)), (ad 4, .inl (ki 0, n_wpip, .inl v_wpip)), (ad 5, .inr (2, [.ref (ad 6), .ref (ad 7), .ref (ad 8), .ref (ad 9), .ref (ad 10), .ref (ad 11), .ref (ad 12), .int v_items_mustSet, .int v_items_count])), (ad 6, .inl (ki 0, n_iwid, .inl v_iwid)), (ad 7, .inl (ki 0, n_inee, .inl v_inee)), (ad 8, .inl (ki 0, n_ibar, .inl v_ibar)), (ad 9, .inl (ki 1, n_inea, .inr (.inl v_inea))), (ad 10, .inl (ki 0, n_iswi, .inl v_iswi)), (ad 13, .inr (3, [.int v_fill_least, .int v_fill_most])), (ad 14, .inr (4, [.ref (ad 2), .ref (ad 5), .ref (ad 13), .ref (ad 15), .ref (ad 16), .ref (ad 17)])), (ad 15, .inl (ki 1, n_tval, .inr (.inl v_tval))), (ad 16, .inl (ki 0, n_tfit, .inl v_tfit)), (ad 17, .inl (ki 0, n_tlon, .inl v_tlon))] → va_S A s.heap H locs → ∀ (ls : Array Slot), lv_has ls 5 [(0, .ref (ad 14)), (1, .int x1), (2, .int x2), (3, .int x3), (4, .int x4)] → W p l e (headSpec w_Table_fillStep { frames := 3, cells := 0, slots := 0, locals := 76 }).room s m ([.ref (ad 14), .int p1, .int p2] : List Value).toArray below meth c H locs 0 0 (MQ below (q_Qm (none) D vwCl [(ad 2, .inr (1, [.int v_wall_steps, .ref (ad 3), .ref (ad 4), .int v_wall_pipeCount])), (ad 3, .inl (ki 2, n_wfree, .inl v_wfree)), (ad 4, .inl (ki 0, n_wpip, .inl v_wpip)), (ad 5, .inr (2, [.ref (ad 6), .ref (ad 7), .ref (ad 8), .ref (ad 9), .ref (ad 10), .ref (ad 11), .ref (ad 12), .int v_items_mustSet, .int v_items_count])), (ad 6, .inl (ki 0, n_iwid, .inl v_iwid)), (ad 7, .inl (ki 0, n_inee, .inl v_inee)), (ad 8, .inl (ki 0, n_ibar, .inl v_ibar)), (ad 9, .inl (ki 1, n_inea, .inr (.inl v_inea))), (ad 10, .inl (ki 0, n_iswi, .inl v_iswi)), (ad 13, .inr (3, [.int v_fill_least, .int v_fill_most])), (ad 14, .inr (4, [.ref (ad 2), .ref (ad 5), .ref (ad 13), .ref (ad 15), .ref (ad 16), .ref (ad 17)])), (ad 15, .inl (ki 1, n_tval, .inr (.inl ov_tval))), (ad 16, .inl (ki 0, n_tfit, .inl ov_tfit)), (ad 17, .inl (ki 0, n_tlon, .inl ov_tlon))] A) ([.ref (ad 14), .int p1, .int p2] : List Value).toArray s 0 0 A) (F0 m 41 ls [])) := by
    intro n
    induction n with
    | zero =>
      exact fun x1 x2 x3 x4 v_tval v_tfit v_tlon hf => (nomatch (show none = some _ from hf))
    | succ n ih =>
      intro x1 x2 x3 x4 v_tval v_tfit v_tlon hf H locs hP hD hS ls hl
      rw [f_Table_fillStep_cut_0] at hf
      refine lv_iload hx hb d_Table_fillStep_41 (lv_at hl 4 rfl) ?_
      refine lv_iconst (v := 1) hx hb d_Table_fillStep_43 (by decide) ?_
      refine lv_aload_n hx hb d_Table_fillStep_44 rfl (lv_at hl 0 rfl) ?_
      refine va_get (D := D) (ci := 4) (v := .ref (ad 5)) (C := R_Table) (T := F_Table) (N := 6) hx hb hts hn_Table hown hK hP 10 rfl rfl 1 (by decide) hL15 (fun _ h9 => h9) rfl d_Table_fillStep_45 ?_
      refine va_get (D := D) (ci := 2) (v := .int v_items_count) (C := R_Items) (T := F_Items) (N := 9) hx hb hts hn_Items hown hK hP 3 rfl rfl 8 (by decide) hL64 (fun _ h9 => h9) rfl d_Table_fillStep_48 ?_
      refine lv_ishl hx hb d_Table_fillStep_51 ?_
      refine lv_icmp_ge (tgt := 82) hx hb d_Table_fillStep_52 (by decide) (fun c_1 => ?_) (fun c_1 => ?_)
      · replace hf := q_it hf c_1
        cases hf
        exact W.vret hx hb hr (fun t ht hW => ⟨rfl, by rw [ht]; exact hP, hS.F ht⟩) hS.2.2 d_Table_fillStep_82
      replace hf := q_ie hf c_1
      refine lv_aload_n hx hb d_Table_fillStep_55 rfl (lv_at hl 0 rfl) ?_
      refine va_get (D := D) (ci := 4) (v := .ref (ad 5)) (C := R_Table) (T := F_Table) (N := 6) hx hb hts hn_Table hown hK hP 10 rfl rfl 1 (by decide) hL15 (fun _ h9 => h9) rfl d_Table_fillStep_56 ?_
      refine va_get (D := D) (ci := 2) (v := .ref (ad 10)) (C := R_Items) (T := F_Items) (N := 9) hx hb hts hn_Items hown hK hP 3 rfl rfl 4 (by decide) hL90 (fun _ h9 => h9) rfl d_Table_fillStep_59 ?_
      refine lv_iload hx hb d_Table_fillStep_62 (lv_at hl 4 rfl) ?_
      obtain ⟨hi_2, hf⟩ := q_ck hf
      refine va_iald hx hb hK hP 8 0 rfl rfl hi_2 d_Table_fillStep_64 ?_
      refine lv_iload_n hx hb d_Table_fillStep_65 rfl (lv_at hl 2 rfl) ?_
      refine lv_icmp_gt (tgt := 76) hx hb d_Table_fillStep_66 (by decide) (fun c_3 => ?_) (fun c_3 => ?_)
      · replace hf := q_it hf c_3
        refine lv_iinc (v := (x4 + 1)) (lv' := [(4, .int (x4 + 1)), (0, .ref (ad 14)), (1, .int x1), (2, .int x2), (3, .int x3)]) hx hb d_Table_fillStep_76 hl (k := 4) rfl rfl (by decide) rfl (fun ls hl => ?_)
        refine lv_goto (tgt := 41) hx hb d_Table_fillStep_79 (by decide) ?_
        exact (ih) x1 x2 x3 (x4 + 1) v_tval v_tfit v_tlon hf _ _ hP hD hS ls (lv_sub hl [1, 2, 3, 4, 0] rfl)
      replace hf := q_ie hf c_3
      refine lv_aload_n hx hb d_Table_fillStep_69 rfl (lv_at hl 0 rfl) ?_
      refine lv_iload_n hx hb d_Table_fillStep_70 rfl (lv_at hl 1 rfl) ?_
      refine lv_iload hx hb d_Table_fillStep_71 (lv_at hl 4 rfl) ?_
      obtain ⟨v_tval_4, hc_4, hf⟩ := q_mb hf
      have hC_4 : ([3, 4, 6, 7, 9, 10, 11, 12, 13] : List Nat).map (fun i => ([(ad 2, .inr (1, [.int v_wall_steps, .ref (ad 3), .ref (ad 4), .int v_wall_pipeCount])), (ad 3, .inl (ki 2, n_wfree, .inl v_wfree)), (ad 4, .inl (ki 0, n_wpip, .inl v_wpip)), (ad 5, .inr (2, [.ref (ad 6), .ref (ad 7), .ref (ad 8), .ref (ad 9), .ref (ad 10), .ref (ad 11), .ref (ad 12), .int v_items_mustSet, .int v_items_count])), (ad 6, .inl (ki 0, n_iwid, .inl v_iwid)), (ad 7, .inl (ki 0, n_inee, .inl v_inee)), (ad 8, .inl (ki 0, n_ibar, .inl v_ibar)), (ad 9, .inl (ki 1, n_inea, .inr (.inl v_inea))), (ad 10, .inl (ki 0, n_iswi, .inl v_iswi)), (ad 13, .inr (3, [.int v_fill_least, .int v_fill_most])), (ad 14, .inr (4, [.ref (ad 2), .ref (ad 5), .ref (ad 13), .ref (ad 15), .ref (ad 16), .ref (ad 17)])), (ad 15, .inl (ki 1, n_tval, .inr (.inl v_tval))), (ad 16, .inl (ki 0, n_tfit, .inl v_tfit)), (ad 17, .inl (ki 0, n_tlon, .inl v_tlon))] : va_W)[i]?) = ([(ad 5, .inr (2, [.ref (ad 6), .ref (ad 7), .ref (ad 8), .ref (ad 9), .ref (ad 10), .ref (ad 11), .ref (ad 12), .int v_items_mustSet, .int v_items_count])), (ad 6, .inl (ki 0, n_iwid, .inl v_iwid)), (ad 8, .inl (ki 0, n_ibar, .inl v_ibar)), (ad 9, .inl (ki 1, n_inea, .inr (.inl v_inea))), (ad 13, .inr (3, [.int v_fill_least, .int v_fill_most])), (ad 14, .inr (4, [.ref (ad 2), .ref (ad 5), .ref (ad 13), .ref (ad 15), .ref (ad 16), .ref (ad 17)])), (ad 15, .inl (ki 1, n_tval, .inr (.inl v_tval))), (ad 16, .inl (ki 0, n_tfit, .inl v_tfit)), (ad 17, .inl (ki 0, n_tlon, .inl v_tlon))] : va_W).map some := rfl
      refine q_mcall3 (w1 := [(ad 5, .inr (2, [.ref (ad 6), .ref (ad 7), .ref (ad 8), .ref (ad 9), .ref (ad 10), .ref (ad 11), .ref (ad 12), .int v_items_mustSet, .int v_items_count])), (ad 6, .inl (ki 0, n_iwid, .inl v_iwid)), (ad 8, .inl (ki 0, n_ibar, .inl v_ibar)), (ad 9, .inl (ki 1, n_inea, .inr (.inl v_inea))), (ad 13, .inr (3, [.int v_fill_least, .int v_fill_most])), (ad 14, .inr (4, [.ref (ad 2), .ref (ad 5), .ref (ad 13), .ref (ad 15), .ref (ad 16), .ref (ad 17)])), (ad 15, .inl (ki 1, n_tval, .inr (.inl v_tval_4))), (ad 16, .inl (ki 0, n_tfit, .inl v_tfit)), (ad 17, .inl (ki 0, n_tlon, .inl v_tlon))]) (ws' := [(ad 2, .inr (1, [.int v_wall_steps, .ref (ad 3), .ref (ad 4), .int v_wall_pipeCount])), (ad 3, .inl (ki 2, n_wfree, .inl v_wfree)), (ad 4, .inl (ki 0, n_wpip, .inl v_wpip)), (ad 5, .inr (2, [.ref (ad 6), .ref (ad 7), .ref (ad 8), .ref (ad 9), .ref (ad 10), .ref (ad 11), .ref (ad 12), .int v_items_mustSet, .int v_items_count])), (ad 6, .inl (ki 0, n_iwid, .inl v_iwid)), (ad 7, .inl (ki 0, n_inee, .inl v_inee)), (ad 8, .inl (ki 0, n_ibar, .inl v_ibar)), (ad 9, .inl (ki 1, n_inea, .inr (.inl v_inea))), (ad 10, .inl (ki 0, n_iswi, .inl v_iswi)), (ad 13, .inr (3, [.int v_fill_least, .int v_fill_most])), (ad 14, .inr (4, [.ref (ad 2), .ref (ad 5), .ref (ad 13), .ref (ad 15), .ref (ad 16), .ref (ad 17)])), (ad 15, .inl (ki 1, n_tval, .inr (.inl v_tval_4))), (ad 16, .inl (ki 0, n_tfit, .inl v_tfit)), (ad 17, .inl (ki 0, n_tlon, .inl v_tlon))]) (wc := [(ad 5, .inr (2, [.ref (ad 6), .ref (ad 7), .ref (ad 8), .ref (ad 9), .ref (ad 10), .ref (ad 11), .ref (ad 12), .int v_items_mustSet, .int v_items_count])), (ad 6, .inl (ki 0, n_iwid, .inl v_iwid)), (ad 8, .inl (ki 0, n_ibar, .inl v_ibar)), (ad 9, .inl (ki 1, n_inea, .inr (.inl v_inea))), (ad 13, .inr (3, [.int v_fill_least, .int v_fill_most])), (ad 14, .inr (4, [.ref (ad 2), .ref (ad 5), .ref (ad 13), .ref (ad 15), .ref (ad 16), .ref (ad 17)])), (ad 15, .inl (ki 1, n_tval, .inr (.inl v_tval))), (ad 16, .inl (ki 0, n_tfit, .inl v_tfit)), (ad 17, .inl (ki 0, n_tlon, .inl v_tlon))]) (va_runV (As := [.int x1, .int x4]) (rest := []) ⟨hx, hb, hml, hown, hts⟩ (c_Table_fillCell l D ad ki n_iwid n_ibar n_inea n_tval n_tfit n_tlon v_items_mustSet v_items_count v_iwid v_ibar v_inea v_fill_least v_fill_most v_tval v_tfit v_tlon x1 x4 N _ v_tval_4 hc_4) (cwV 2 hts (q_goodV ⟨m_385, m_387, m_3, m_60⟩ m_388) rfl rfl rfl (by decide +kernel) ⟨Nat.le_of_ble_eq_true rfl, Nat.le_of_ble_eq_true rfl⟩) (q_preVM3 hE hK hP hD (by decide +kernel) hC_4 10 4 rfl rfl) rfl rfl hl.1 rfl (lv_room (Nat.le_of_ble_eq_true rfl)) d_Table_fillStep_73 ⟨Nat.le_of_ble_eq_true rfl, Nat.le_of_ble_eq_true rfl⟩) hP hD hS hA hC_4 [ad 2, ad 3, ad 4, ad 5, ad 6, ad 7, ad 8, ad 9, ad 10, ad 13, ad 14, ad 15, ad 16, ad 17] rfl rfl (fun H1 h1 hk => (q_c (hk 0 _ rfl (by decide)) (q_c (hk 1 _ rfl (by decide)) (q_c (hk 2 _ rfl (by decide)) (q_c (h1 0 _ rfl) (q_c (h1 1 _ rfl) (q_c (hk 5 _ rfl (by decide)) (q_c (h1 2 _ rfl) (q_c (h1 3 _ rfl) (q_c (hk 8 _ rfl (by decide)) (q_c (h1 4 _ rfl) (q_c (h1 5 _ rfl) (q_c (h1 6 _ rfl) (q_c (h1 7 _ rfl) (q_c (h1 8 _ rfl) q_n))))))))))))))) rfl (fun H locs hP hD hS => ?_)
      refine lv_iinc (v := (x4 + 1)) (lv' := [(4, .int (x4 + 1)), (0, .ref (ad 14)), (1, .int x1), (2, .int x2), (3, .int x3)]) hx hb d_Table_fillStep_76 hl (k := 4) rfl rfl (by decide) rfl (fun ls hl => ?_)
      refine lv_goto (tgt := 41) hx hb d_Table_fillStep_79 (by decide) ?_
      exact (ih) x1 x2 x3 (x4 + 1) v_tval_4 v_tfit v_tlon hf _ _ hP hD hS ls (lv_sub hl [1, 2, 3, 4, 0] rfl)
  unfold f_Table_fillStep at hf
  refine lv_aload_n hx hb d_Table_fillStep_0 rfl (lv_at hl 0 rfl) ?_
  refine va_get (D := D) (ci := 4) (v := .ref (ad 2)) (C := R_Table) (T := F_Table) (N := 6) hx hb hts hn_Table hown hK hP 10 rfl rfl 0 (by decide) hL9 (fun _ h9 => h9) rfl d_Table_fillStep_1 ?_
  refine lv_iload_n hx hb d_Table_fillStep_4 rfl (lv_at hl 1 rfl) ?_
  obtain ⟨r_5, hc_5, hf⟩ := q_mb hf
  refine q_pcall (W.runV (As := [.int p1]) (rest := []) ⟨hx, hb, hml, hown, hts⟩ (c_Wall_stepsBeforeFree l D ad ki n_wfree v_wall_steps v_wall_pipeCount v_wfree p1 N r_5 hc_5) (cwV 1 hts (q_goodV ⟨m_368, m_369, m_370, m_55⟩ m_371) rfl rfl rfl (by decide +kernel) ⟨Nat.le_of_ble_eq_true rfl, Nat.le_of_ble_eq_true rfl⟩) (q_preVP (wc := [(ad 2, .inr (1, [.int v_wall_steps, .ref (ad 3), .ref (ad 4), .int v_wall_pipeCount])), (ad 3, .inl (ki 2, n_wfree, .inl v_wfree))]) hE hK hP [0, 1] rfl 0 1 rfl rfl) rfl rfl hl.1 rfl (lv_room (Nat.le_of_ble_eq_true rfl)) d_Table_fillStep_5 ⟨Nat.le_of_ble_eq_true rfl, Nat.le_of_ble_eq_true rfl⟩) ?_
  refine lv_istore_n (lv' := [(3, .int r_5), (0, .ref (ad 14)), (1, .int p1), (2, .int p2)]) hx hb d_Table_fillStep_8 rfl hl (by decide) rfl (fun ls hl => ?_)
  refine lv_aload_n hx hb d_Table_fillStep_9 rfl (lv_at hl 1 rfl) ?_
  refine va_get (D := D) (ci := 4) (v := .ref (ad 16)) (C := R_Table) (T := F_Table) (N := 6) hx hb hts hn_Table hown hK hP 10 rfl rfl 4 (by decide) hL33 (fun _ h9 => h9) rfl d_Table_fillStep_10 ?_
  refine lv_iload_n hx hb d_Table_fillStep_13 rfl (lv_at hl 2 rfl) ?_
  refine lv_aload_n hx hb d_Table_fillStep_14 rfl (lv_at hl 1 rfl) ?_
  refine lv_iload_n hx hb d_Table_fillStep_15 rfl (lv_at hl 2 rfl) ?_
  refine lv_iload_n hx hb d_Table_fillStep_16 rfl (lv_at hl 0 rfl) ?_
  obtain ⟨r_6, hc_6, hf⟩ := q_mb hf
  refine q_pcall (W.runV (As := [.int p1, .int r_5]) (rest := [.int p1, .ref (ad 16)]) ⟨hx, hb, hml, hown, hts⟩ (c_Table_itemsThatFit l D ad ki n_wpip n_iwid n_inee v_wall_steps v_wall_pipeCount v_wpip v_items_mustSet v_items_count v_iwid v_inee p1 r_5 N r_6 hc_6) (cwV 2 hts (q_goodV ⟨m_372, m_374, m_2, m_60⟩ m_375) rfl rfl rfl (by decide +kernel) ⟨Nat.le_of_ble_eq_true rfl, Nat.le_of_ble_eq_true rfl⟩) (q_preVP (wc := [(ad 2, .inr (1, [.int v_wall_steps, .ref (ad 3), .ref (ad 4), .int v_wall_pipeCount])), (ad 4, .inl (ki 0, n_wpip, .inl v_wpip)), (ad 5, .inr (2, [.ref (ad 6), .ref (ad 7), .ref (ad 8), .ref (ad 9), .ref (ad 10), .ref (ad 11), .ref (ad 12), .int v_items_mustSet, .int v_items_count])), (ad 6, .inl (ki 0, n_iwid, .inl v_iwid)), (ad 7, .inl (ki 0, n_inee, .inl v_inee)), (ad 14, .inr (4, [.ref (ad 2), .ref (ad 5), .ref (ad 13), .ref (ad 15), .ref (ad 16), .ref (ad 17)]))]) hE hK hP [0, 2, 3, 4, 5, 10] rfl 10 4 rfl rfl) rfl rfl hl.1 rfl (lv_room (Nat.le_of_ble_eq_true rfl)) d_Table_fillStep_17 ⟨Nat.le_of_ble_eq_true rfl, Nat.le_of_ble_eq_true rfl⟩) ?_
  obtain ⟨hi_7, hf⟩ := q_ck hf
  refine va_iast hx hb hK hP hD hS 12 0 rfl rfl hi_7 d_Table_fillStep_20 (fun H locs hP hD hS => ?_)
  replace hP : va_P D vwCl [(ad 2, .inr (1, [.int v_wall_steps, .ref (ad 3), .ref (ad 4), .int v_wall_pipeCount])), (ad 3, .inl (ki 2, n_wfree, .inl v_wfree)), (ad 4, .inl (ki 0, n_wpip, .inl v_wpip)), (ad 5, .inr (2, [.ref (ad 6), .ref (ad 7), .ref (ad 8), .ref (ad 9), .ref (ad 10), .ref (ad 11), .ref (ad 12), .int v_items_mustSet, .int v_items_count])), (ad 6, .inl (ki 0, n_iwid, .inl v_iwid)), (ad 7, .inl (ki 0, n_inee, .inl v_inee)), (ad 8, .inl (ki 0, n_ibar, .inl v_ibar)), (ad 9, .inl (ki 1, n_inea, .inr (.inl v_inea))), (ad 10, .inl (ki 0, n_iswi, .inl v_iswi)), (ad 13, .inr (3, [.int v_fill_least, .int v_fill_most])), (ad 14, .inr (4, [.ref (ad 2), .ref (ad 5), .ref (ad 13), .ref (ad 15), .ref (ad 16), .ref (ad 17)])), (ad 15, .inl (ki 1, n_tval, .inr (.inl v_tval))), (ad 16, .inl (ki 0, n_tfit, .inl (upd v_tfit (Int32.toNatClampNeg p1) r_6))), (ad 17, .inl (ki 0, n_tlon, .inl v_tlon))] H := hP
  replace hD : va_D A [(ad 2, .inr (1, [.int v_wall_steps, .ref (ad 3), .ref (ad 4), .int v_wall_pipeCount])), (ad 3, .inl (ki 2, n_wfree, .inl v_wfree)), (ad 4, .inl (ki 0, n_wpip, .inl v_wpip)), (ad 5, .inr (2, [.ref (ad 6), .ref (ad 7), .ref (ad 8), .ref (ad 9), .ref (ad 10), .ref (ad 11), .ref (ad 12), .int v_items_mustSet, .int v_items_count])), (ad 6, .inl (ki 0, n_iwid, .inl v_iwid)), (ad 7, .inl (ki 0, n_inee, .inl v_inee)), (ad 8, .inl (ki 0, n_ibar, .inl v_ibar)), (ad 9, .inl (ki 1, n_inea, .inr (.inl v_inea))), (ad 10, .inl (ki 0, n_iswi, .inl v_iswi)), (ad 13, .inr (3, [.int v_fill_least, .int v_fill_most])), (ad 14, .inr (4, [.ref (ad 2), .ref (ad 5), .ref (ad 13), .ref (ad 15), .ref (ad 16), .ref (ad 17)])), (ad 15, .inl (ki 1, n_tval, .inr (.inl v_tval))), (ad 16, .inl (ki 0, n_tfit, .inl (upd v_tfit (Int32.toNatClampNeg p1) r_6))), (ad 17, .inl (ki 0, n_tlon, .inl v_tlon))] := hD
  refine lv_aload_n hx hb d_Table_fillStep_21 rfl (lv_at hl 1 rfl) ?_
  refine va_get (D := D) (ci := 4) (v := .ref (ad 17)) (C := R_Table) (T := F_Table) (N := 6) hx hb hts hn_Table hown hK hP 10 rfl rfl 5 (by decide) hL37 (fun _ h9 => h9) rfl d_Table_fillStep_22 ?_
  refine lv_iload_n hx hb d_Table_fillStep_25 rfl (lv_at hl 2 rfl) ?_
  refine lv_aload_n hx hb d_Table_fillStep_26 rfl (lv_at hl 1 rfl) ?_
  refine va_get (D := D) (ci := 4) (v := .ref (ad 13)) (C := R_Table) (T := F_Table) (N := 6) hx hb hts hn_Table hown hK hP 10 rfl rfl 2 (by decide) hL19 (fun _ h9 => h9) rfl d_Table_fillStep_27 ?_
  refine va_get (D := D) (ci := 3) (v := .int v_fill_most) (C := R_Fillers) (T := F_Fillers) (N := 2) hx hb hts hn_Fillers hown hK hP 9 rfl rfl 1 (by decide) hL80 (fun _ h9 => h9) rfl d_Table_fillStep_30 ?_
  refine lv_iload_n hx hb d_Table_fillStep_33 rfl (lv_at hl 0 rfl) ?_
  refine va_mmin hx hb (hml.trans hl.1.symm) hown (hts (.methodLink R_Table 85 Lib.Math.min.name) (List.mem_cons_of_mem _ m_384)) (hts (.static Lib.Math.min.name) (List.mem_cons_of_mem _ m_83)) (hts (.initialized "java/lang/Math") (List.mem_cons_of_mem _ m_56)) (hts (.code Lib.Math.min.name Lib.Math.min.code 2 (some .int)) (List.mem_cons_of_mem _ m_84)) (Nat.le_of_ble_eq_true rfl) (Nat.le_of_ble_eq_true rfl) (Nat.zero_le _) (Nat.zero_le _) d_Table_fillStep_34 ?_
  obtain ⟨hi_8, hf⟩ := q_ck hf
  refine va_iast hx hb hK hP hD hS 13 0 rfl rfl hi_8 d_Table_fillStep_37 (fun H locs hP hD hS => ?_)
  replace hP : va_P D vwCl [(ad 2, .inr (1, [.int v_wall_steps, .ref (ad 3), .ref (ad 4), .int v_wall_pipeCount])), (ad 3, .inl (ki 2, n_wfree, .inl v_wfree)), (ad 4, .inl (ki 0, n_wpip, .inl v_wpip)), (ad 5, .inr (2, [.ref (ad 6), .ref (ad 7), .ref (ad 8), .ref (ad 9), .ref (ad 10), .ref (ad 11), .ref (ad 12), .int v_items_mustSet, .int v_items_count])), (ad 6, .inl (ki 0, n_iwid, .inl v_iwid)), (ad 7, .inl (ki 0, n_inee, .inl v_inee)), (ad 8, .inl (ki 0, n_ibar, .inl v_ibar)), (ad 9, .inl (ki 1, n_inea, .inr (.inl v_inea))), (ad 10, .inl (ki 0, n_iswi, .inl v_iswi)), (ad 13, .inr (3, [.int v_fill_least, .int v_fill_most])), (ad 14, .inr (4, [.ref (ad 2), .ref (ad 5), .ref (ad 13), .ref (ad 15), .ref (ad 16), .ref (ad 17)])), (ad 15, .inl (ki 1, n_tval, .inr (.inl v_tval))), (ad 16, .inl (ki 0, n_tfit, .inl (upd v_tfit (Int32.toNatClampNeg p1) r_6))), (ad 17, .inl (ki 0, n_tlon, .inl (upd v_tlon (Int32.toNatClampNeg p1) (if r_5 < v_fill_most then r_5 else v_fill_most))))] H := hP
  replace hD : va_D A [(ad 2, .inr (1, [.int v_wall_steps, .ref (ad 3), .ref (ad 4), .int v_wall_pipeCount])), (ad 3, .inl (ki 2, n_wfree, .inl v_wfree)), (ad 4, .inl (ki 0, n_wpip, .inl v_wpip)), (ad 5, .inr (2, [.ref (ad 6), .ref (ad 7), .ref (ad 8), .ref (ad 9), .ref (ad 10), .ref (ad 11), .ref (ad 12), .int v_items_mustSet, .int v_items_count])), (ad 6, .inl (ki 0, n_iwid, .inl v_iwid)), (ad 7, .inl (ki 0, n_inee, .inl v_inee)), (ad 8, .inl (ki 0, n_ibar, .inl v_ibar)), (ad 9, .inl (ki 1, n_inea, .inr (.inl v_inea))), (ad 10, .inl (ki 0, n_iswi, .inl v_iswi)), (ad 13, .inr (3, [.int v_fill_least, .int v_fill_most])), (ad 14, .inr (4, [.ref (ad 2), .ref (ad 5), .ref (ad 13), .ref (ad 15), .ref (ad 16), .ref (ad 17)])), (ad 15, .inl (ki 1, n_tval, .inr (.inl v_tval))), (ad 16, .inl (ki 0, n_tfit, .inl (upd v_tfit (Int32.toNatClampNeg p1) r_6))), (ad 17, .inl (ki 0, n_tlon, .inl (upd v_tlon (Int32.toNatClampNeg p1) (if r_5 < v_fill_most then r_5 else v_fill_most))))] := hD
  refine lv_iconst (v := 0) hx hb d_Table_fillStep_38 (by decide) ?_
  refine lv_istore (lv' := [(4, .int 0), (3, .int r_5), (0, .ref (ad 14)), (1, .int p1), (2, .int p2)]) hx hb d_Table_fillStep_39 hl (by decide) rfl (fun ls hl => ?_)
  exact (key N) p1 p2 r_5 0 v_tval (upd v_tfit (Int32.toNatClampNeg p1) r_6) (upd v_tlon (Int32.toNatClampNeg p1) (if r_5 < v_fill_most then r_5 else v_fill_most)) hf _ _ hP hD hS ls (lv_sub hl [2, 3, 4, 1, 0] rfl)
def f_Table_passOver_cut (N : Nat) (n_tval : Nat) (v_items_mustSet : Int32) (v_items_count : Int32) : Nat → Nat → Int32 → Int32 → Int64 → Int32 → (Nat → Int64) → Option ((Nat → Int64))
  | 0, _, _, _, _, _, _ => none
  | n + 1, t, x1, x2, x3, x5, v_tval => if t = 0 then (if (1 <<< (v_items_count &&& 31)) ≤ x2 then (some v_tval) else (Option.bind (f_Table_valueOf N n_tval v_tval (x1 + 1) x2 7) (fun r_2 => (f_Table_passOver_cut N n_tval v_items_mustSet v_items_count n 1 x1 x2 r_2 0 v_tval)))) else (if (8 : Int32) ≤ x5 then (f_Table_passOver_cut N n_tval v_items_mustSet v_items_count n 0 x1 (x2 + 1) 0 0 v_tval) else (Option.bind (f_Table_cell N x1 x2) (fun r_4 => (if (r_4 + x5) < 0 ∨ n_tval ≤ Int32.toNatClampNeg (r_4 + x5) then none else (f_Table_passOver_cut N n_tval v_items_mustSet v_items_count n 1 x1 x2 x3 (x5 + 1) (vp_updL v_tval (Int32.toNatClampNeg (r_4 + x5)) x3))))))
theorem f_Table_passOver_cut_0 (N : Nat) (n_tval : Nat) (v_items_mustSet : Int32) (v_items_count : Int32) (n : Nat) (x1 : Int32) (x2 : Int32) (x3 : Int64) (x5 : Int32) (v_tval : Nat → Int64) : f_Table_passOver_cut N n_tval v_items_mustSet v_items_count (n + 1) 0 x1 x2 x3 x5 v_tval = (if (1 <<< (v_items_count &&& 31)) ≤ x2 then (some v_tval) else (Option.bind (f_Table_valueOf N n_tval v_tval (x1 + 1) x2 7) (fun r_2 => (f_Table_passOver_cut N n_tval v_items_mustSet v_items_count n 1 x1 x2 r_2 0 v_tval)))) := rfl
theorem f_Table_passOver_cut_1 (N : Nat) (n_tval : Nat) (v_items_mustSet : Int32) (v_items_count : Int32) (n : Nat) (x1 : Int32) (x2 : Int32) (x3 : Int64) (x5 : Int32) (v_tval : Nat → Int64) : f_Table_passOver_cut N n_tval v_items_mustSet v_items_count (n + 1) 1 x1 x2 x3 x5 v_tval = (if (8 : Int32) ≤ x5 then (f_Table_passOver_cut N n_tval v_items_mustSet v_items_count n 0 x1 (x2 + 1) 0 0 v_tval) else (Option.bind (f_Table_cell N x1 x2) (fun r_4 => (if (r_4 + x5) < 0 ∨ n_tval ≤ Int32.toNatClampNeg (r_4 + x5) then none else (f_Table_passOver_cut N n_tval v_items_mustSet v_items_count n 1 x1 x2 x3 (x5 + 1) (vp_updL v_tval (Int32.toNatClampNeg (r_4 + x5)) x3)))))) := rfl
def f_Table_passOver (N : Nat) (n_tval : Nat) (v_items_mustSet : Int32) (v_items_count : Int32) (v_tval : Nat → Int64) (p1 : Int32) : Option ((Nat → Int64)) := (f_Table_passOver_cut N n_tval v_items_mustSet v_items_count N 0 p1 0 0 0 v_tval)
set_option maxRecDepth 100000 in
set_option maxHeartbeats 4000000 in
theorem c_Table_passOver (l : Launch) (D : va_G) (ad : Nat → Nat) (ki : Nat → ClassId) (n_tval : Nat) (v_items_mustSet : Int32) (v_items_count : Int32) (v_tval : Nat → Int64) (p1 : Int32) (N : Nat) (sz : Nat) (ov_tval : Nat → Int64) (hf : f_Table_passOver N n_tval v_items_mustSet v_items_count v_tval p1 = some ov_tval) : Met l y_Table_passOver w_Table_passOver { frames := 1, cells := 0, slots := 0, locals := 23 } (q_PcM [.ref (ad 14), .int p1] D vwCl [(ad 5, .inr (2, [.ref (ad 6), .ref (ad 7), .ref (ad 8), .ref (ad 9), .ref (ad 10), .ref (ad 11), .ref (ad 12), .int v_items_mustSet, .int v_items_count])), (ad 14, .inr (4, [.ref (ad 2), .ref (ad 5), .ref (ad 13), .ref (ad 15), .ref (ad 16), .ref (ad 17)])), (ad 15, .inl (ki 1, n_tval, .inr (.inl v_tval)))] (TYS ki) sz) (q_Qm (none) D vwCl [(ad 5, .inr (2, [.ref (ad 6), .ref (ad 7), .ref (ad 8), .ref (ad 9), .ref (ad 10), .ref (ad 11), .ref (ad 12), .int v_items_mustSet, .int v_items_count])), (ad 14, .inr (4, [.ref (ad 2), .ref (ad 5), .ref (ad 13), .ref (ad 15), .ref (ad 16), .ref (ad 17)])), (ad 15, .inl (ki 1, n_tval, .inr (.inl ov_tval)))] (va_A [(ad 5, .inr (2, [.ref (ad 6), .ref (ad 7), .ref (ad 8), .ref (ad 9), .ref (ad 10), .ref (ad 11), .ref (ad 12), .int v_items_mustSet, .int v_items_count])), (ad 14, .inr (4, [.ref (ad 2), .ref (ad 5), .ref (ad 13), .ref (ad 15), .ref (ad 16), .ref (ad 17)])), (ad 15, .inl (ki 1, n_tval, .inr (.inl v_tval)))] sz)) 0 0 (va_A [(ad 5, .inr (2, [.ref (ad 6), .ref (ad 7), .ref (ad 8), .ref (ad 9), .ref (ad 10), .ref (ad 11), .ref (ad 12), .int v_items_mustSet, .int v_items_count])), (ad 14, .inr (4, [.ref (ad 2), .ref (ad 5), .ref (ad 13), .ref (ad 15), .ref (ad 16), .ref (ad 17)])), (ad 15, .inl (ki 1, n_tval, .inr (.inl v_tval)))] sz) := by
  refine Met.ofW (cc := b_Table_passOver) (maxL := 6) (ret := none) (by decide) rfl ?_
  intro p e s m args below meth c s₁ B hml hv
  obtain ⟨rfl, hsz, hP, hK, hD0, hE⟩ := hv
  have hx := B.exec
  have hb := B.bytes
  have hr := B.returns
  have hts := atoms_spec (ws := w_Table_passOver) B.pre
  have hown : s.vm.findClass R_Table = some m.cls := findClass_of_methodNamed B.named
  have hlocks := B.notSynchronized
  have hn_Items : ∀ w ∈ u_ws R_Items F_Items 9, w ∈ w_Table_passOver := (fun w h => List.mem_cons_of_mem _ (i_Items w h))
  have hn_Table : ∀ w ∈ u_ws R_Table F_Table 6, w ∈ w_Table_passOver := (fun w h => List.mem_cons_of_mem _ (i_Table w h))
  have hL15 := hts (.fieldLink R_Table 15 "RoomFills$Table" "items" "LRoomFills$Items;") (List.mem_cons_of_mem _ m_192)
  have hL29 := hts (.fieldLink R_Table 29 "RoomFills$Table" "values" "[J") (List.mem_cons_of_mem _ m_195)
  have hL64 := hts (.fieldLink R_Table 64 "RoomFills$Items" "count" "I") (List.mem_cons_of_mem _ m_140)
  subst hsz
  have hD := hD0.self (sz := s.heap.size)
  generalize hAe : va_A [(ad 5, .inr (2, [.ref (ad 6), .ref (ad 7), .ref (ad 8), .ref (ad 9), .ref (ad 10), .ref (ad 11), .ref (ad 12), .int v_items_mustSet, .int v_items_count])), (ad 14, .inr (4, [.ref (ad 2), .ref (ad 5), .ref (ad 13), .ref (ad 15), .ref (ad 16), .ref (ad 17)])), (ad 15, .inl (ki 1, n_tval, .inr (.inl v_tval)))] s.heap.size = A at hD ⊢
  have hA : ∀ q : Nat, s.heap.size ≤ q → A q := fun q h => by rw [← hAe]; exact Or.inr h
  have hS : va_S A s.heap s.heap [] := va_S.rf
  replace hP : va_P D vwCl [(ad 5, .inr (2, [.ref (ad 6), .ref (ad 7), .ref (ad 8), .ref (ad 9), .ref (ad 10), .ref (ad 11), .ref (ad 12), .int v_items_mustSet, .int v_items_count])), (ad 14, .inr (4, [.ref (ad 2), .ref (ad 5), .ref (ad 13), .ref (ad 15), .ref (ad 16), .ref (ad 17)])), (ad 15, .inl (ki 1, n_tval, .inr (.inl v_tval)))] s.heap := hP
  have hl := lv_entry ([.ref (ad 14), .int p1]) (n := 6) (Nat.le_of_ble_eq_true rfl)
  rw [lg_entry_eq]
  generalize (lg_sl ([.ref (ad 14), .int p1]) ++ List.replicate (6 - (lg_sl ([.ref (ad 14), .int p1])).length) Slot.unset).toArray = ls at hl ⊢
  replace hl : lv_has ls 6 [(0, .ref (ad 14)), (1, .int p1)] := hl
  have key : ∀ n : Nat, (∀ (x1 : Int32) (x2 : Int32) (v_tval : Nat → Int64), f_Table_passOver_cut N n_tval v_items_mustSet v_items_count n 0 x1 x2 0 0 v_tval = some ov_tval → ∀ (H : Heap) (locs : List Loc), va_P D vwCl [(ad 5, .inr (2, [.ref (ad 6), .ref (ad 7), .ref (ad 8), .ref (ad 9), .ref (ad 10), .ref (ad 11), .ref (ad 12), .int v_items_mustSet, .int v_items_count])), (ad 14, .inr (4, [.ref (ad 2), .ref (ad 5), .ref (ad 13), .ref (ad 15), .ref (ad 16), .ref (ad 17)])), (ad 15, .inl (ki 1, n_tval, .inr (.inl v_tval)))] H → va_D A [(ad 5, .inr (2, [.ref (ad 6), .ref (ad 7), .ref (ad 8), .ref (ad 9), .ref (ad 10), .ref (ad 11), .ref (ad 12), .int v_items_mustSet, .int v_items_count])), (ad 14, .inr (4, [.ref (ad 2), .ref (ad 5), .ref (ad 13), .ref (ad 15), .ref (ad 16), .ref (ad 17)])), (ad 15, .inl (ki 1, n_tval, .inr (.inl v_tval)))] → va_S A s.heap H locs → ∀ (ls : Array Slot), lv_has ls 6 [(0, .ref (ad 14)), (1, .int x1), (2, .int x2)] → W p l e (headSpec w_Table_passOver { frames := 1, cells := 0, slots := 0, locals := 23 }).room s m ([.ref (ad 14), .int p1] : List Value).toArray below meth c H locs 0 0 (MQ below (q_Qm (none) D vwCl [(ad 5, .inr (2, [.ref (ad 6), .ref (ad 7), .ref (ad 8), .ref (ad 9), .ref (ad 10), .ref (ad 11), .ref (ad 12), .int v_items_mustSet, .int v_items_count])), (ad 14, .inr (4, [.ref (ad 2), .ref (ad 5), .ref (ad 13), .ref (ad 15), .ref (ad 16), .ref (ad 17)])), (ad 15, .inl (ki 1, n_tval, .inr (.inl ov_tval)))] A) ([.ref (ad 14), .int p1] : List Value).toArray s 0 0 A) (F0 m 2 ls [])) ∧ (∀ (x1 : Int32) (x2 : Int32) (x3 : Int64) (x5 : Int32) (v_tval : Nat → Int64), f_Table_passOver_cut N n_tval v_items_mustSet v_items_count n 1 x1 x2 x3 x5 v_tval = some ov_tval → ∀ (H : Heap) (locs : List Loc), va_P D vwCl [(ad 5, .inr (2, [.ref (ad 6), .ref (ad 7), .ref (ad 8), .ref (ad 9), .ref (ad 10), .ref (ad 11), .ref (ad 12), .int v_items_mustSet, .int v_items_count])), (ad 14, .inr (4, [.ref (ad 2), .ref (ad 5), .ref (ad 13), .ref (ad 15), .ref (ad 16), .ref (ad 17)])), (ad 15, .inl (ki 1, n_tval, .inr (.inl v_tval)))] H → va_D A [(ad 5, .inr (2, [.ref (ad 6), .ref (ad 7), .ref (ad 8), .ref (ad 9), .ref (ad 10), .ref (ad 11), .ref (ad 12), .int v_items_mustSet, .int v_items_count])), (ad 14, .inr (4, [.ref (ad 2), .ref (ad 5), .ref (ad 13), .ref (ad 15), .ref (ad 16), .ref (ad 17)])), (ad 15, .inl (ki 1, n_tval, .inr (.inl v_tval)))] → va_S A s.heap H locs → ∀ (ls : Array Slot), lv_has ls 6 [(0, .ref (ad 14)), (1, .int x1), (2, .int x2), (3, .long x3), (5, .int x5)] → W p l e (headSpec w_Table_passOver { frames := 1, cells := 0, slots := 0, locals := 23 }).room s m ([.ref (ad 14), .int p1] : List Value).toArray below meth c H locs 0 0 (MQ below (q_Qm (none) D vwCl [(ad 5, .inr (2, [.ref (ad 6), .ref (ad 7), .ref (ad 8), .ref (ad 9), .ref (ad 10), .ref (ad 11), .ref (ad 12), .int v_items_mustSet, .int v_items_count])), (ad 14, .inr (4, [.ref (ad 2), .ref (ad 5), .ref (ad 13), .ref (ad 15), .ref (ad 16), .ref (ad 17)])), (ad 15, .inl (ki 1, n_tval, .inr (.inl ov_tval)))] A) ([.ref (ad 14), .int p1] : List Value).toArray s 0 0 A) (F0 m 29 ls [])) := by
    intro n
    induction n with
    | zero =>
      exact ⟨fun x1 x2 v_tval hf => (nomatch (show none = some _ from hf)), fun x1 x2 x3 x5 v_tval hf => (nomatch (show none = some _ from hf))⟩
    | succ n ih =>
      refine ⟨?_, ?_⟩
      · intro x1 x2 v_tval hf H locs hP hD hS ls hl
        rw [f_Table_passOver_cut_0] at hf
        refine lv_iload_n hx hb d_Table_passOver_2 rfl (lv_at hl 2 rfl) ?_
        refine lv_iconst (v := 1) hx hb d_Table_passOver_3 (by decide) ?_
        refine lv_aload_n hx hb d_Table_passOver_4 rfl (lv_at hl 0 rfl) ?_
        refine va_get (D := D) (ci := 4) (v := .ref (ad 5)) (C := R_Table) (T := F_Table) (N := 6) hx hb hts hn_Table hown hK hP 1 rfl rfl 1 (by decide) hL15 (fun _ h9 => h9) rfl d_Table_passOver_5 ?_
        refine va_get (D := D) (ci := 2) (v := .int v_items_count) (C := R_Items) (T := F_Items) (N := 9) hx hb hts hn_Items hown hK hP 0 rfl rfl 8 (by decide) hL64 (fun _ h9 => h9) rfl d_Table_passOver_8 ?_
        refine lv_ishl hx hb d_Table_passOver_11 ?_
        refine lv_icmp_ge (tgt := 62) hx hb d_Table_passOver_12 (by decide) (fun c_1 => ?_) (fun c_1 => ?_)
        · replace hf := q_it hf c_1
          cases hf
          exact W.vret hx hb hr (fun t ht hW => ⟨rfl, by rw [ht]; exact hP, hS.F ht⟩) hS.2.2 d_Table_passOver_62
        replace hf := q_ie hf c_1
        refine lv_aload_n hx hb d_Table_passOver_15 rfl (lv_at hl 0 rfl) ?_
        refine lv_iload_n hx hb d_Table_passOver_16 rfl (lv_at hl 1 rfl) ?_
        refine lv_iconst (v := 1) hx hb d_Table_passOver_17 (by decide) ?_
        refine lv_iadd hx hb d_Table_passOver_18 ?_
        refine lv_iload_n hx hb d_Table_passOver_19 rfl (lv_at hl 2 rfl) ?_
        refine lv_bipush (v := 7) hx hb d_Table_passOver_20 (by decide) ?_
        obtain ⟨r_2, hc_2, hf⟩ := q_mb hf
        refine q_pcall (W.runV (As := [.int (x1 + 1), .int x2, .int 7]) (rest := []) ⟨hx, hb, hml, hown, hts⟩ (c_Table_valueOf l D ad ki n_tval v_tval (x1 + 1) x2 7 N r_2 hc_2) (cwV 3 hts (q_goodV ⟨m_360, m_361, m_362, m_60⟩ m_363) rfl rfl rfl (by decide +kernel) ⟨Nat.le_of_ble_eq_true rfl, Nat.le_of_ble_eq_true rfl⟩) (q_preVP (wc := [(ad 14, .inr (4, [.ref (ad 2), .ref (ad 5), .ref (ad 13), .ref (ad 15), .ref (ad 16), .ref (ad 17)])), (ad 15, .inl (ki 1, n_tval, .inr (.inl v_tval)))]) hE hK hP [1, 2] rfl 1 4 rfl rfl) rfl rfl hl.1 rfl (lv_room (Nat.le_of_ble_eq_true rfl)) d_Table_passOver_22 ⟨Nat.le_of_ble_eq_true rfl, Nat.le_of_ble_eq_true rfl⟩) ?_
        refine lv_lstore_n (lv' := [(3, .long r_2), (0, .ref (ad 14)), (1, .int x1), (2, .int x2)]) hx hb d_Table_passOver_25 rfl hl (by decide) rfl (fun ls hl => ?_)
        refine lv_iconst (v := 0) hx hb d_Table_passOver_26 (by decide) ?_
        refine lv_istore (lv' := [(5, .int 0), (3, .long r_2), (0, .ref (ad 14)), (1, .int x1), (2, .int x2)]) hx hb d_Table_passOver_27 hl (by decide) rfl (fun ls hl => ?_)
        exact (ih).2 x1 x2 r_2 0 v_tval hf _ _ hP hD hS ls (lv_sub hl [2, 3, 4, 1, 0] rfl)
      · intro x1 x2 x3 x5 v_tval hf H locs hP hD hS ls hl
        rw [f_Table_passOver_cut_1] at hf
        refine lv_iload hx hb d_Table_passOver_29 (lv_at hl 4 rfl) ?_
        refine lv_bipush (v := 8) hx hb d_Table_passOver_31 (by decide) ?_
        refine lv_icmp_ge (tgt := 56) hx hb d_Table_passOver_33 (by decide) (fun c_3 => ?_) (fun c_3 => ?_)
        · replace hf := q_it hf c_3
          refine lv_iinc (v := (x2 + 1)) (lv' := [(2, .int (x2 + 1)), (0, .ref (ad 14)), (1, .int x1), (3, .long x3), (5, .int x5)]) hx hb d_Table_passOver_56 hl (k := 2) rfl rfl (by decide) rfl (fun ls hl => ?_)
          refine lv_goto (tgt := 2) hx hb d_Table_passOver_59 (by decide) ?_
          exact (ih).1 x1 (x2 + 1) v_tval hf _ _ hP hD hS ls (lv_sub hl [1, 2, 0] rfl)
        replace hf := q_ie hf c_3
        refine lv_aload_n hx hb d_Table_passOver_36 rfl (lv_at hl 0 rfl) ?_
        refine va_get (D := D) (ci := 4) (v := .ref (ad 15)) (C := R_Table) (T := F_Table) (N := 6) hx hb hts hn_Table hown hK hP 1 rfl rfl 3 (by decide) hL29 (fun _ h9 => h9) rfl d_Table_passOver_37 ?_
        refine lv_iload_n hx hb d_Table_passOver_40 rfl (lv_at hl 1 rfl) ?_
        refine lv_iload_n hx hb d_Table_passOver_41 rfl (lv_at hl 2 rfl) ?_
        obtain ⟨r_4, hc_4, hf⟩ := q_mb hf
        refine q_pcall (W.runS (As := [.int x1, .int x2]) (rest := [.ref (ad 15)]) ⟨hx, hb, hml, hown, hts⟩ (c_Table_cell l D ad ki x1 x2 N r_4 hc_4) (va_cwS 2 hts (q_goodS ⟨m_353, m_354, m_60⟩ m_355) rfl rfl rfl (by decide +kernel) ⟨Nat.le_of_ble_eq_true rfl, Nat.le_of_ble_eq_true rfl⟩) (q_preSP (wc := []) hE hK hP [] rfl) rfl rfl hl.1 rfl (lv_room (Nat.le_of_ble_eq_true rfl)) d_Table_passOver_42 ⟨Nat.le_of_ble_eq_true rfl, Nat.le_of_ble_eq_true rfl⟩) ?_
        refine lv_iload hx hb d_Table_passOver_45 (lv_at hl 4 rfl) ?_
        refine lv_iadd hx hb d_Table_passOver_47 ?_
        refine lv_lload_n hx hb d_Table_passOver_48 rfl (lv_at hl 3 rfl) ?_
        obtain ⟨hi_5, hf⟩ := q_ck hf
        refine va_last hx hb hK hP hD hS 2 1 rfl rfl hi_5 d_Table_passOver_49 (fun H locs hP hD hS => ?_)
        replace hP : va_P D vwCl [(ad 5, .inr (2, [.ref (ad 6), .ref (ad 7), .ref (ad 8), .ref (ad 9), .ref (ad 10), .ref (ad 11), .ref (ad 12), .int v_items_mustSet, .int v_items_count])), (ad 14, .inr (4, [.ref (ad 2), .ref (ad 5), .ref (ad 13), .ref (ad 15), .ref (ad 16), .ref (ad 17)])), (ad 15, .inl (ki 1, n_tval, .inr (.inl (vp_updL v_tval (Int32.toNatClampNeg (r_4 + x5)) x3))))] H := hP
        replace hD : va_D A [(ad 5, .inr (2, [.ref (ad 6), .ref (ad 7), .ref (ad 8), .ref (ad 9), .ref (ad 10), .ref (ad 11), .ref (ad 12), .int v_items_mustSet, .int v_items_count])), (ad 14, .inr (4, [.ref (ad 2), .ref (ad 5), .ref (ad 13), .ref (ad 15), .ref (ad 16), .ref (ad 17)])), (ad 15, .inl (ki 1, n_tval, .inr (.inl (vp_updL v_tval (Int32.toNatClampNeg (r_4 + x5)) x3))))] := hD
        refine lv_iinc (v := (x5 + 1)) (lv' := [(5, .int (x5 + 1)), (0, .ref (ad 14)), (1, .int x1), (2, .int x2), (3, .long x3)]) hx hb d_Table_passOver_50 hl (k := 4) rfl rfl (by decide) rfl (fun ls hl => ?_)
        refine lv_goto (tgt := 29) hx hb d_Table_passOver_53 (by decide) ?_
        exact (ih).2 x1 x2 x3 (x5 + 1) (vp_updL v_tval (Int32.toNatClampNeg (r_4 + x5)) x3) hf _ _ hP hD hS ls (lv_sub hl [1, 2, 3, 4, 0] rfl)
  unfold f_Table_passOver at hf
  refine lv_iconst (v := 0) hx hb d_Table_passOver_0 (by decide) ?_
  refine lv_istore_n (lv' := [(2, .int 0), (0, .ref (ad 14)), (1, .int p1)]) hx hb d_Table_passOver_1 rfl hl (by decide) rfl (fun ls hl => ?_)
  exact (key N).1 p1 0 v_tval hf _ _ hP hD hS ls (lv_sub hl [1, 2, 0] rfl)
def f_Table_fill_cut (N : Nat) (n_wfree : Nat) (n_wpip : Nat) (n_iwid : Nat) (n_inee : Nat) (n_ibar : Nat) (n_inea : Nat) (n_iswi : Nat) (n_tval : Nat) (n_tfit : Nat) (n_tlon : Nat) (v_wall_steps : Int32) (v_wall_pipeCount : Int32) (v_wfree : Nat → Int32) (v_wpip : Nat → Int32) (v_items_mustSet : Int32) (v_items_count : Int32) (v_iwid : Nat → Int32) (v_inee : Nat → Int32) (v_ibar : Nat → Int32) (v_inea : Nat → Int64) (v_iswi : Nat → Int32) (v_fill_least : Int32) (v_fill_most : Int32) : Nat → Nat → Int32 → Int32 → (Nat → Int64) → (Nat → Int32) → (Nat → Int32) → Option ((Nat → Int64) × (Nat → Int32) × (Nat → Int32))
  | 0, _, _, _, _, _, _ => none
  | n + 1, t, x1, x2, v_tval, v_tfit, v_tlon => if t = 0 then (if (8 : Int32) ≤ x1 then (f_Table_fill_cut N n_wfree n_wpip n_iwid n_inee n_ibar n_inea n_iswi n_tval n_tfit n_tlon v_wall_steps v_wall_pipeCount v_wfree v_wpip v_items_mustSet v_items_count v_iwid v_inee v_ibar v_inea v_iswi v_fill_least v_fill_most n 1 0 (v_wall_steps - 1) v_tval v_tfit v_tlon) else (Option.bind (f_Table_cell N v_wall_steps 0) (fun r_2 => (if (r_2 + x1) < 0 ∨ n_tval ≤ Int32.toNatClampNeg (r_2 + x1) then none else (f_Table_fill_cut N n_wfree n_wpip n_iwid n_inee n_ibar n_inea n_iswi n_tval n_tfit n_tlon v_wall_steps v_wall_pipeCount v_wfree v_wpip v_items_mustSet v_items_count v_iwid v_inee v_ibar v_inea v_iswi v_fill_least v_fill_most n 0 (x1 + 1) 0 (vp_updL v_tval (Int32.toNatClampNeg (r_2 + x1)) 0) v_tfit v_tlon))))) else (if x2 < 0 then (some (v_tval, v_tfit, v_tlon)) else (if x2 < 0 ∨ n_wfree ≤ Int32.toNatClampNeg x2 then none else (if (v_wfree (Int32.toNatClampNeg x2)) = 0 then (Option.bind (f_Table_fillStep N n_wfree n_wpip n_iwid n_inee n_ibar n_inea n_iswi n_tval n_tfit n_tlon v_wall_steps v_wall_pipeCount v_wfree v_wpip v_items_mustSet v_items_count v_iwid v_inee v_ibar v_inea v_iswi v_fill_least v_fill_most v_tval v_tfit v_tlon x2 (x1 + 1)) (fun o_7 => match o_7 with | (v_tval_7, v_tfit_7, v_tlon_7) => (f_Table_fill_cut N n_wfree n_wpip n_iwid n_inee n_ibar n_inea n_iswi n_tval n_tfit n_tlon v_wall_steps v_wall_pipeCount v_wfree v_wpip v_items_mustSet v_items_count v_iwid v_inee v_ibar v_inea v_iswi v_fill_least v_fill_most n 1 (x1 + 1) (x2 + (-1)) v_tval_7 v_tfit_7 v_tlon_7))) else (Option.bind (f_Table_passOver N n_tval v_items_mustSet v_items_count v_tval x2) (fun v_tval_8 => (f_Table_fill_cut N n_wfree n_wpip n_iwid n_inee n_ibar n_inea n_iswi n_tval n_tfit n_tlon v_wall_steps v_wall_pipeCount v_wfree v_wpip v_items_mustSet v_items_count v_iwid v_inee v_ibar v_inea v_iswi v_fill_least v_fill_most n 1 x1 (x2 + (-1)) v_tval_8 v_tfit v_tlon))))))
theorem f_Table_fill_cut_0 (N : Nat) (n_wfree : Nat) (n_wpip : Nat) (n_iwid : Nat) (n_inee : Nat) (n_ibar : Nat) (n_inea : Nat) (n_iswi : Nat) (n_tval : Nat) (n_tfit : Nat) (n_tlon : Nat) (v_wall_steps : Int32) (v_wall_pipeCount : Int32) (v_wfree : Nat → Int32) (v_wpip : Nat → Int32) (v_items_mustSet : Int32) (v_items_count : Int32) (v_iwid : Nat → Int32) (v_inee : Nat → Int32) (v_ibar : Nat → Int32) (v_inea : Nat → Int64) (v_iswi : Nat → Int32) (v_fill_least : Int32) (v_fill_most : Int32) (n : Nat) (x1 : Int32) (x2 : Int32) (v_tval : Nat → Int64) (v_tfit : Nat → Int32) (v_tlon : Nat → Int32) : f_Table_fill_cut N n_wfree n_wpip n_iwid n_inee n_ibar n_inea n_iswi n_tval n_tfit n_tlon v_wall_steps v_wall_pipeCount v_wfree v_wpip v_items_mustSet v_items_count v_iwid v_inee v_ibar v_inea v_iswi v_fill_least v_fill_most (n + 1) 0 x1 x2 v_tval v_tfit v_tlon = (if (8 : Int32) ≤ x1 then (f_Table_fill_cut N n_wfree n_wpip n_iwid n_inee n_ibar n_inea n_iswi n_tval n_tfit n_tlon v_wall_steps v_wall_pipeCount v_wfree v_wpip v_items_mustSet v_items_count v_iwid v_inee v_ibar v_inea v_iswi v_fill_least v_fill_most n 1 0 (v_wall_steps - 1) v_tval v_tfit v_tlon) else (Option.bind (f_Table_cell N v_wall_steps 0) (fun r_2 => (if (r_2 + x1) < 0 ∨ n_tval ≤ Int32.toNatClampNeg (r_2 + x1) then none else (f_Table_fill_cut N n_wfree n_wpip n_iwid n_inee n_ibar n_inea n_iswi n_tval n_tfit n_tlon v_wall_steps v_wall_pipeCount v_wfree v_wpip v_items_mustSet v_items_count v_iwid v_inee v_ibar v_inea v_iswi v_fill_least v_fill_most n 0 (x1 + 1) 0 (vp_updL v_tval (Int32.toNatClampNeg (r_2 + x1)) 0) v_tfit v_tlon))))) := rfl
theorem f_Table_fill_cut_1 (N : Nat) (n_wfree : Nat) (n_wpip : Nat) (n_iwid : Nat) (n_inee : Nat) (n_ibar : Nat) (n_inea : Nat) (n_iswi : Nat) (n_tval : Nat) (n_tfit : Nat) (n_tlon : Nat) (v_wall_steps : Int32) (v_wall_pipeCount : Int32) (v_wfree : Nat → Int32) (v_wpip : Nat → Int32) (v_items_mustSet : Int32) (v_items_count : Int32) (v_iwid : Nat → Int32) (v_inee : Nat → Int32) (v_ibar : Nat → Int32) (v_inea : Nat → Int64) (v_iswi : Nat → Int32) (v_fill_least : Int32) (v_fill_most : Int32) (n : Nat) (x1 : Int32) (x2 : Int32) (v_tval : Nat → Int64) (v_tfit : Nat → Int32) (v_tlon : Nat → Int32) : f_Table_fill_cut N n_wfree n_wpip n_iwid n_inee n_ibar n_inea n_iswi n_tval n_tfit n_tlon v_wall_steps v_wall_pipeCount v_wfree v_wpip v_items_mustSet v_items_count v_iwid v_inee v_ibar v_inea v_iswi v_fill_least v_fill_most (n + 1) 1 x1 x2 v_tval v_tfit v_tlon = (if x2 < 0 then (some (v_tval, v_tfit, v_tlon)) else (if x2 < 0 ∨ n_wfree ≤ Int32.toNatClampNeg x2 then none else (if (v_wfree (Int32.toNatClampNeg x2)) = 0 then (Option.bind (f_Table_fillStep N n_wfree n_wpip n_iwid n_inee n_ibar n_inea n_iswi n_tval n_tfit n_tlon v_wall_steps v_wall_pipeCount v_wfree v_wpip v_items_mustSet v_items_count v_iwid v_inee v_ibar v_inea v_iswi v_fill_least v_fill_most v_tval v_tfit v_tlon x2 (x1 + 1)) (fun o_7 => match o_7 with | (v_tval_7, v_tfit_7, v_tlon_7) => (f_Table_fill_cut N n_wfree n_wpip n_iwid n_inee n_ibar n_inea n_iswi n_tval n_tfit n_tlon v_wall_steps v_wall_pipeCount v_wfree v_wpip v_items_mustSet v_items_count v_iwid v_inee v_ibar v_inea v_iswi v_fill_least v_fill_most n 1 (x1 + 1) (x2 + (-1)) v_tval_7 v_tfit_7 v_tlon_7))) else (Option.bind (f_Table_passOver N n_tval v_items_mustSet v_items_count v_tval x2) (fun v_tval_8 => (f_Table_fill_cut N n_wfree n_wpip n_iwid n_inee n_ibar n_inea n_iswi n_tval n_tfit n_tlon v_wall_steps v_wall_pipeCount v_wfree v_wpip v_items_mustSet v_items_count v_iwid v_inee v_ibar v_inea v_iswi v_fill_least v_fill_most n 1 x1 (x2 + (-1)) v_tval_8 v_tfit v_tlon)))))) := rfl
def f_Table_fill (N : Nat) (n_wfree : Nat) (n_wpip : Nat) (n_iwid : Nat) (n_inee : Nat) (n_ibar : Nat) (n_inea : Nat) (n_iswi : Nat) (n_tval : Nat) (n_tfit : Nat) (n_tlon : Nat) (v_wall_steps : Int32) (v_wall_pipeCount : Int32) (v_wfree : Nat → Int32) (v_wpip : Nat → Int32) (v_items_mustSet : Int32) (v_items_count : Int32) (v_iwid : Nat → Int32) (v_inee : Nat → Int32) (v_ibar : Nat → Int32) (v_inea : Nat → Int64) (v_iswi : Nat → Int32) (v_fill_least : Int32) (v_fill_most : Int32) (v_tval : Nat → Int64) (v_tfit : Nat → Int32) (v_tlon : Nat → Int32)  : Option ((Nat → Int64) × (Nat → Int32) × (Nat → Int32)) := (Option.bind (f_Arrays_fill_JJV N n_tval v_tval (-1)) (fun v_tval_9 => (f_Table_fill_cut N n_wfree n_wpip n_iwid n_inee n_ibar n_inea n_iswi n_tval n_tfit n_tlon v_wall_steps v_wall_pipeCount v_wfree v_wpip v_items_mustSet v_items_count v_iwid v_inee v_ibar v_inea v_iswi v_fill_least v_fill_most N 0 0 0 v_tval_9 v_tfit v_tlon)))
set_option maxRecDepth 100000 in
set_option maxHeartbeats 4000000 in
theorem c_Table_fill (l : Launch) (D : va_G) (ad : Nat → Nat) (ki : Nat → ClassId) (n_wfree : Nat) (n_wpip : Nat) (n_iwid : Nat) (n_inee : Nat) (n_ibar : Nat) (n_inea : Nat) (n_iswi : Nat) (n_tval : Nat) (n_tfit : Nat) (n_tlon : Nat) (v_wall_steps : Int32) (v_wall_pipeCount : Int32) (v_wfree : Nat → Int32) (v_wpip : Nat → Int32) (v_items_mustSet : Int32) (v_items_count : Int32) (v_iwid : Nat → Int32) (v_inee : Nat → Int32) (v_ibar : Nat → Int32) (v_inea : Nat → Int64) (v_iswi : Nat → Int32) (v_fill_least : Int32) (v_fill_most : Int32) (v_tval : Nat → Int64) (v_tfit : Nat → Int32) (v_tlon : Nat → Int32)  (N : Nat) (sz : Nat) (ov_tval : Nat → Int64) (ov_tfit : Nat → Int32) (ov_tlon : Nat → Int32) (hf : f_Table_fill N n_wfree n_wpip n_iwid n_inee n_ibar n_inea n_iswi n_tval n_tfit n_tlon v_wall_steps v_wall_pipeCount v_wfree v_wpip v_items_mustSet v_items_count v_iwid v_inee v_ibar v_inea v_iswi v_fill_least v_fill_most v_tval v_tfit v_tlon = some (ov_tval, ov_tfit, ov_tlon)) : Met l y_Table_fill w_Table_fill { frames := 4, cells := 0, slots := 0, locals := 100 } (q_PcM [.ref (ad 14)] D vwCl [(ad 2, .inr (1, [.int v_wall_steps, .ref (ad 3), .ref (ad 4), .int v_wall_pipeCount])), (ad 3, .inl (ki 2, n_wfree, .inl v_wfree)), (ad 4, .inl (ki 0, n_wpip, .inl v_wpip)), (ad 5, .inr (2, [.ref (ad 6), .ref (ad 7), .ref (ad 8), .ref (ad 9), .ref (ad 10), .ref (ad 11), .ref (ad 12), .int v_items_mustSet, .int v_items_count])), (ad 6, .inl (ki 0, n_iwid, .inl v_iwid)), (ad 7, .inl (ki 0, n_inee, .inl v_inee)), (ad 8, .inl (ki 0, n_ibar, .inl v_ibar)), (ad 9, .inl (ki 1, n_inea, .inr (.inl v_inea))), (ad 10, .inl (ki 0, n_iswi, .inl v_iswi)), (ad 13, .inr (3, [.int v_fill_least, .int v_fill_most])), (ad 14, .inr (4, [.ref (ad 2), .ref (ad 5), .ref (ad 13), .ref (ad 15), .ref (ad 16), .ref (ad 17)])), (ad 15, .inl (ki 1, n_tval, .inr (.inl v_tval))), (ad 16, .inl (ki 0, n_tfit, .inl v_tfit)), (ad 17, .inl (ki 0, n_tlon, .inl v_tlon))] (TYS ki) sz) (q_Qm (none) D vwCl [(ad 2, .inr (1, [.int v_wall_steps, .ref (ad 3), .ref (ad 4), .int v_wall_pipeCount])), (ad 3, .inl (ki 2, n_wfree, .inl v_wfree)), (ad 4, .inl (ki 0, n_wpip, .inl v_wpip)), (ad 5, .inr (2, [.ref (ad 6), .ref (ad 7), .ref (ad 8), .ref (ad 9), .ref (ad 10), .ref (ad 11), .ref (ad 12), .int v_items_mustSet, .int v_items_count])), (ad 6, .inl (ki 0, n_iwid, .inl v_iwid)), (ad 7, .inl (ki 0, n_inee, .inl v_inee)), (ad 8, .inl (ki 0, n_ibar, .inl v_ibar)), (ad 9, .inl (ki 1, n_inea, .inr (.inl v_inea))), (ad 10, .inl (ki 0, n_iswi, .inl v_iswi)), (ad 13, .inr (3, [.int v_fill_least, .int v_fill_most])), (ad 14, .inr (4, [.ref (ad 2), .ref (ad 5), .ref (ad 13), .ref (ad 15), .ref (ad 16), .ref (ad 17)])), (ad 15, .inl (ki 1, n_tval, .inr (.inl ov_tval))), (ad 16, .inl (ki 0, n_tfit, .inl ov_tfit)), (ad 17, .inl (ki 0, n_tlon, .inl ov_tlon))] (va_A [(ad 2, .inr (1, [.int v_wall_steps, .ref (ad 3), .ref (ad 4), .int v_wall_pipeCount])), (ad 3, .inl (ki 2, n_wfree, .inl v_wfree)), (ad 4, .inl (ki 0, n_wpip, .inl v_wpip)), (ad 5, .inr (2, [.ref (ad 6), .ref (ad 7), .ref (ad 8), .ref (ad 9), .ref (ad 10), .ref (ad 11), .ref (ad 12), .int v_items_mustSet, .int v_items_count])), (ad 6, .inl (ki 0, n_iwid, .inl v_iwid)), (ad 7, .inl (ki 0, n_inee, .inl v_inee)), (ad 8, .inl (ki 0, n_ibar, .inl v_ibar)), (ad 9, .inl (ki 1, n_inea, .inr (.inl v_inea))), (ad 10, .inl (ki 0, n_iswi, .inl v_iswi)), (ad 13, .inr (3, [.int v_fill_least, .int v_fill_most])), (ad 14, .inr (4, [.ref (ad 2), .ref (ad 5), .ref (ad 13), .ref (ad 15), .ref (ad 16), .ref (ad 17)])), (ad 15, .inl (ki 1, n_tval, .inr (.inl v_tval))), (ad 16, .inl (ki 0, n_tfit, .inl v_tfit)), (ad 17, .inl (ki 0, n_tlon, .inl v_tlon))] sz)) 0 0 (va_A [(ad 2, .inr (1, [.int v_wall_steps, .ref (ad 3), .ref (ad 4), .int v_wall_pipeCount])), (ad 3, .inl (ki 2, n_wfree, .inl v_wfree)), (ad 4, .inl (ki 0, n_wpip, .inl v_wpip)), (ad 5, .inr (2, [.ref (ad 6), .ref (ad 7), .ref (ad 8), .ref (ad 9), .ref (ad 10), .ref (ad 11), .ref (ad 12), .int v_items_mustSet, .int v_items_count])), (ad 6, .inl (ki 0, n_iwid, .inl v_iwid)), (ad 7, .inl (ki 0, n_inee, .inl v_inee)), (ad 8, .inl (ki 0, n_ibar, .inl v_ibar)), (ad 9, .inl (ki 1, n_inea, .inr (.inl v_inea))), (ad 10, .inl (ki 0, n_iswi, .inl v_iswi)), (ad 13, .inr (3, [.int v_fill_least, .int v_fill_most])), (ad 14, .inr (4, [.ref (ad 2), .ref (ad 5), .ref (ad 13), .ref (ad 15), .ref (ad 16), .ref (ad 17)])), (ad 15, .inl (ki 1, n_tval, .inr (.inl v_tval))), (ad 16, .inl (ki 0, n_tfit, .inl v_tfit)), (ad 17, .inl (ki 0, n_tlon, .inl v_tlon))] sz) := by
  refine Met.ofW (cc := b_Table_fill) (maxL := 3) (ret := none) (by decide) rfl ?_
  intro p e s m args below meth c s₁ B hml hv
  obtain ⟨rfl, hsz, hP, hK, hD0, hE⟩ := hv
  have hx := B.exec
  have hb := B.bytes
  have hr := B.returns
  have hts := atoms_spec (ws := w_Table_fill) B.pre
  have hown : s.vm.findClass R_Table = some m.cls := findClass_of_methodNamed B.named
  have hlocks := B.notSynchronized
  have hn_Table : ∀ w ∈ u_ws R_Table F_Table 6, w ∈ w_Table_fill := (fun w h => List.mem_cons_of_mem _ (i_Table w h))
  have hn_Wall : ∀ w ∈ u_ws R_Wall F_Wall 4, w ∈ w_Table_fill := (fun w h => List.mem_cons_of_mem _ (i_Wall w h))
  have hL9 := hts (.fieldLink R_Table 9 "RoomFills$Table" "wall" "LRoomFills$Wall;") (List.mem_cons_of_mem _ m_191)
  have hL23 := hts (.fieldLink R_Table 23 "RoomFills$Wall" "steps" "I") (List.mem_cons_of_mem _ m_93)
  have hL29 := hts (.fieldLink R_Table 29 "RoomFills$Table" "values" "[J") (List.mem_cons_of_mem _ m_195)
  have hL40 := hts (.constantLong R_Table 40 (-1)) (List.mem_cons_of_mem _ m_349)
  have hL52 := hts (.fieldLink R_Table 52 "RoomFills$Wall" "free" "[Z") (List.mem_cons_of_mem _ m_98)
  subst hsz
  have hD := hD0.self (sz := s.heap.size)
  generalize hAe : va_A [(ad 2, .inr (1, [.int v_wall_steps, .ref (ad 3), .ref (ad 4), .int v_wall_pipeCount])), (ad 3, .inl (ki 2, n_wfree, .inl v_wfree)), (ad 4, .inl (ki 0, n_wpip, .inl v_wpip)), (ad 5, .inr (2, [.ref (ad 6), .ref (ad 7), .ref (ad 8), .ref (ad 9), .ref (ad 10), .ref (ad 11), .ref (ad 12), .int v_items_mustSet, .int v_items_count])), (ad 6, .inl (ki 0, n_iwid, .inl v_iwid)), (ad 7, .inl (ki 0, n_inee, .inl v_inee)), (ad 8, .inl (ki 0, n_ibar, .inl v_ibar)), (ad 9, .inl (ki 1, n_inea, .inr (.inl v_inea))), (ad 10, .inl (ki 0, n_iswi, .inl v_iswi)), (ad 13, .inr (3, [.int v_fill_least, .int v_fill_most])), (ad 14, .inr (4, [.ref (ad 2), .ref (ad 5), .ref (ad 13), .ref (ad 15), .ref (ad 16), .ref (ad 17)])), (ad 15, .inl (ki 1, n_tval, .inr (.inl v_tval))), (ad 16, .inl (ki 0, n_tfit, .inl v_tfit)), (ad 17, .inl (ki 0, n_tlon, .inl v_tlon))] s.heap.size = A at hD ⊢
  have hA : ∀ q : Nat, s.heap.size ≤ q → A q := fun q h => by rw [← hAe]; exact Or.inr h
  have hS : va_S A s.heap s.heap [] := va_S.rf
  replace hP : va_P D vwCl [(ad 2, .inr (1, [.int v_wall_steps, .ref (ad 3), .ref (ad 4), .int v_wall_pipeCount])), (ad 3, .inl (ki 2, n_wfree, .inl v_wfree)), (ad 4, .inl (ki 0, n_wpip, .inl v_wpip)), (ad 5, .inr (2, [.ref (ad 6), .ref (ad 7), .ref (ad 8), .ref (ad 9), .ref (ad 10), .ref (ad 11), .ref (ad 12), .int v_items_mustSet, .int v_items_count])), (ad 6, .inl (ki 0, n_iwid, .inl v_iwid)), (ad 7, .inl (ki 0, n_inee, .inl v_inee)), (ad 8, .inl (ki 0, n_ibar, .inl v_ibar)), (ad 9, .inl (ki 1, n_inea, .inr (.inl v_inea))), (ad 10, .inl (ki 0, n_iswi, .inl v_iswi)), (ad 13, .inr (3, [.int v_fill_least, .int v_fill_most])), (ad 14, .inr (4, [.ref (ad 2), .ref (ad 5), .ref (ad 13), .ref (ad 15), .ref (ad 16), .ref (ad 17)])), (ad 15, .inl (ki 1, n_tval, .inr (.inl v_tval))), (ad 16, .inl (ki 0, n_tfit, .inl v_tfit)), (ad 17, .inl (ki 0, n_tlon, .inl v_tlon))] s.heap := hP
  have hl := lv_entry ([.ref (ad 14)]) (n := 3) (Nat.le_of_ble_eq_true rfl)
  rw [lg_entry_eq]
  generalize (lg_sl ([.ref (ad 14)]) ++ List.replicate (3 - (lg_sl ([.ref (ad 14)])).length) Slot.unset).toArray = ls at hl ⊢
  replace hl : lv_has ls 3 [(0, .ref (ad 14))] := hl
  have key : ∀ n : Nat, (∀ (x1 : Int32) (v_tval : Nat → Int64) (v_tfit : Nat → Int32) (v_tlon : Nat → Int32), f_Table_fill_cut N n_wfree n_wpip n_iwid n_inee n_ibar n_inea n_iswi n_tval n_tfit n_tlon v_wall_steps v_wall_pipeCount v_wfree v_wpip v_items_mustSet v_items_count v_iwid v_inee v_ibar v_inea v_iswi v_fill_least v_fill_most n 0 x1 0 v_tval v_tfit v_tlon = some (ov_tval, ov_tfit, ov_tlon) → ∀ (H : Heap) (locs : List Loc), va_P D vwCl [(ad 2, .inr (1, [.int v_wall_steps, .ref (ad 3), .ref (ad 4), .int v_wall_pipeCount])), (ad 3, .inl (ki 2, n_wfree, .inl v_wfree)), (ad 4, .inl (ki 0, n_wpip, .inl v_wpip)), (ad 5, .inr (2, [.ref (ad 6), .ref (ad 7), .ref (ad 8), .ref (ad 9), .ref (ad 10), .ref (ad 11), .ref (ad 12), .int v_items_mustSet, .int v_items_count])), (ad 6, .inl (ki 0, n_iwid, .inl v_iwid)), (ad 7, .inl (ki 0, n_inee, .inl v_inee)), (ad 8, .inl (ki 0, n_ibar, .inl v_ibar)), (ad 9, .inl (ki 1, n_inea, .inr (.inl v_inea))), (ad 10, .inl (ki 0, n_iswi, .inl v_iswi)), (ad 13, .inr (3, [.int v_fill_least, .int v_fill_most])), (ad 14, .inr (4, [.ref (ad 2), .ref (ad 5), .ref (ad 13), .ref (ad 15), .ref (ad 16), .ref (ad 17)])), (ad 15, .inl (ki 1, n_tval, .inr (.inl v_tval))), (ad 16, .inl (ki 0, n_tfit, .inl v_tfit)), (ad 17, .inl (ki 0, n_tlon, .inl v_tlon))] H → va_D A [(ad 2, .inr (1, [.int v_wall_steps, .ref (ad 3), .ref (ad 4), .int v_wall_pipeCount])), (ad 3, .inl (ki 2, n_wfree, .inl v_wfree)), (ad 4, .inl (ki 0, n_wpip, .inl v_wpip)), (ad 5, .inr (2, [.ref (ad 6), .ref (ad 7), .ref (ad 8), .ref (ad 9), .ref (ad 10), .ref (ad 11), .ref (ad 12), .int v_items_mustSet, .int v_items_count])), (ad 6, .inl (ki 0, n_iwid, .inl v_iwid)), (ad 7, .inl (ki 0, n_inee, .inl v_inee)), (ad 8, .inl (ki 0, n_ibar, .inl v_ibar)), (ad 9, .inl (ki 1, n_inea, .inr (.inl v_inea))), (ad 10, .inl (ki 0, n_iswi, .inl v_iswi)), (ad 13, .inr (3, [.int v_fill_least, .int v_fill_most])), (ad 14, .inr (4, [.ref (ad 2), .ref (ad 5), .ref (ad 13), .ref (ad 15), .ref (ad 16), .ref (ad 17)])), (ad 15, .inl (ki 1, n_tval, .inr (.inl v_tval))), (ad 16, .inl (ki 0, n_tfit, .inl v_tfit)), (ad 17, .inl (ki 0, n_tlon, .inl v_tlon))] → va_S A s.heap H locs → ∀ (ls : Array Slot), lv_has ls 3 [(0, .ref (ad 14)), (1, .int x1)] → W p l e (headSpec w_Table_fill { frames := 4, cells := 0, slots := 0, locals := 100 }).room s m ([.ref (ad 14)] : List Value).toArray below meth c H locs 0 0 (MQ below (q_Qm (none) D vwCl [(ad 2, .inr (1, [.int v_wall_steps, .ref (ad 3), .ref (ad 4), .int v_wall_pipeCount])), (ad 3, .inl (ki 2, n_wfree, .inl v_wfree)), (ad 4, .inl (ki 0, n_wpip, .inl v_wpip)), (ad 5, .inr (2, [.ref (ad 6), .ref (ad 7), .ref (ad 8), .ref (ad 9), .ref (ad 10), .ref (ad 11), .ref (ad 12), .int v_items_mustSet, .int v_items_count])), (ad 6, .inl (ki 0, n_iwid, .inl v_iwid)), (ad 7, .inl (ki 0, n_inee, .inl v_inee)), (ad 8, .inl (ki 0, n_ibar, .inl v_ibar)), (ad 9, .inl (ki 1, n_inea, .inr (.inl v_inea))), (ad 10, .inl (ki 0, n_iswi, .inl v_iswi)), (ad 13, .inr (3, [.int v_fill_least, .int v_fill_most])), (ad 14, .inr (4, [.ref (ad 2), .ref (ad 5), .ref (ad 13), .ref (ad 15), .ref (ad 16), .ref (ad 17)])), (ad 15, .inl (ki 1, n_tval, .inr (.inl ov_tval))), (ad 16, .inl (ki 0, n_tfit, .inl ov_tfit)), (ad 17, .inl (ki 0, n_tlon, .inl ov_tlon))] A) ([.ref (ad 14)] : List Value).toArray s 0 0 A) (F0 m 12 ls [])) ∧ (∀ (x1 : Int32) (x2 : Int32) (v_tval : Nat → Int64) (v_tfit : Nat → Int32) (v_tlon : Nat → Int32), f_Table_fill_cut N n_wfree n_wpip n_iwid n_inee n_ibar n_inea n_iswi n_tval n_tfit n_tlon v_wall_steps v_wall_pipeCount v_wfree v_wpip v_items_mustSet v_items_count v_iwid v_inee v_ibar v_inea v_iswi v_fill_least v_fill_most n 1 x1 x2 v_tval v_tfit v_tlon = some (ov_tval, ov_tfit, ov_tlon) → ∀ (H : Heap) (locs : List Loc), va_P D vwCl [(ad 2, .inr (1, [.int v_wall_steps, .ref (ad 3), .ref (ad 4), .int v_wall_pipeCount])), (ad 3, .inl (ki 2, n_wfree, .inl v_wfree)), (ad 4, .inl (ki 0, n_wpip, .inl v_wpip)), (ad 5, .inr (2, [.ref (ad 6), .ref (ad 7), .ref (ad 8), .ref (ad 9), .ref (ad 10), .ref (ad 11), .ref (ad 12), .int v_items_mustSet, .int v_items_count])), (ad 6, .inl (ki 0, n_iwid, .inl v_iwid)), (ad 7, .inl (ki 0, n_inee, .inl v_inee)), (ad 8, .inl (ki 0, n_ibar, .inl v_ibar)), (ad 9, .inl (ki 1, n_inea, .inr (.inl v_inea))), (ad 10, .inl (ki 0, n_iswi, .inl v_iswi)), (ad 13, .inr (3, [.int v_fill_least, .int v_fill_most])), (ad 14, .inr (4, [.ref (ad 2), .ref (ad 5), .ref (ad 13), .ref (ad 15), .ref (ad 16), .ref (ad 17)])), (ad 15, .inl (ki 1, n_tval, .inr (.inl v_tval))), (ad 16, .inl (ki 0, n_tfit, .inl v_tfit)), (ad 17, .inl (ki 0, n_tlon, .inl v_tlon))] H → va_D A [(ad 2, .inr (1, [.int v_wall_steps, .ref (ad 3), .ref (ad 4), .int v_wall_pipeCount])), (ad 3, .inl (ki 2, n_wfree, .inl v_wfree)), (ad 4, .inl (ki 0, n_wpip, .inl v_wpip)), (ad 5, .inr (2, [.ref (ad 6), .ref (ad 7), .ref (ad 8), .ref (ad 9), .ref (ad 10), .ref (ad 11), .ref (ad 12), .int v_items_mustSet, .int v_items_count])), (ad 6, .inl (ki 0, n_iwid, .inl v_iwid)), (ad 7, .inl (ki 0, n_inee, .inl v_inee)), (ad 8, .inl (ki 0, n_ibar, .inl v_ibar)), (ad 9, .inl (ki 1, n_inea, .inr (.inl v_inea))), (ad 10, .inl (ki 0, n_iswi, .inl v_iswi)), (ad 13, .inr (3, [.int v_fill_least, .int v_fill_most])), (ad 14, .inr (4, [.ref (ad 2), .ref (ad 5), .ref (ad 13), .ref (ad 15), .ref (ad 16), .ref (ad 17)])), (ad 15, .inl (ki 1, n_tval, .inr (.inl v_tval))), (ad 16, .inl (ki 0, n_tfit, .inl v_tfit)), (ad 17, .inl (ki 0, n_tlon, .inl v_tlon))] → va_S A s.heap H locs → ∀ (ls : Array Slot), lv_has ls 3 [(0, .ref (ad 14)), (1, .int x1), (2, .int x2)] → W p l e (headSpec w_Table_fill { frames := 4, cells := 0, slots := 0, locals := 100 }).room s m ([.ref (ad 14)] : List Value).toArray below meth c H locs 0 0 (MQ below (q_Qm (none) D vwCl [(ad 2, .inr (1, [.int v_wall_steps, .ref (ad 3), .ref (ad 4), .int v_wall_pipeCount])), (ad 3, .inl (ki 2, n_wfree, .inl v_wfree)), (ad 4, .inl (ki 0, n_wpip, .inl v_wpip)), (ad 5, .inr (2, [.ref (ad 6), .ref (ad 7), .ref (ad 8), .ref (ad 9), .ref (ad 10), .ref (ad 11), .ref (ad 12), .int v_items_mustSet, .int v_items_count])), (ad 6, .inl (ki 0, n_iwid, .inl v_iwid)), (ad 7, .inl (ki 0, n_inee, .inl v_inee)), (ad 8, .inl (ki 0, n_ibar, .inl v_ibar)), (ad 9, .inl (ki 1, n_inea, .inr (.inl v_inea))), (ad 10, .inl (ki 0, n_iswi, .inl v_iswi)), (ad 13, .inr (3, [.int v_fill_least, .int v_fill_most])), (ad 14, .inr (4, [.ref (ad 2), .ref (ad 5), .ref (ad 13), .ref (ad 15), .ref (ad 16), .ref (ad 17)])), (ad 15, .inl (ki 1, n_tval, .inr (.inl ov_tval))), (ad 16, .inl (ki 0, n_tfit, .inl ov_tfit)), (ad 17, .inl (ki 0, n_tlon, .inl ov_tlon))] A) ([.ref (ad 14)] : List Value).toArray s 0 0 A) (F0 m 55 ls [])) := by
    intro n
    induction n with
    | zero =>
      exact ⟨fun x1 v_tval v_tfit v_tlon hf => (nomatch (show none = some _ from hf)), fun x1 x2 v_tval v_tfit v_tlon hf => (nomatch (show none = some _ from hf))⟩
    | succ n ih =>
      refine ⟨?_, ?_⟩
      · intro x1 v_tval v_tfit v_tlon hf H locs hP hD hS ls hl
        rw [f_Table_fill_cut_0] at hf
        refine lv_iload_n hx hb d_Table_fill_12 rfl (lv_at hl 1 rfl) ?_
        refine lv_bipush (v := 8) hx hb d_Table_fill_13 (by decide) ?_
        refine lv_icmp_ge (tgt := 43) hx hb d_Table_fill_15 (by decide) (fun c_1 => ?_) (fun c_1 => ?_)
        · replace hf := q_it hf c_1
          refine lv_iconst (v := 0) hx hb d_Table_fill_43 (by decide) ?_
          refine lv_istore_n (lv' := [(1, .int 0), (0, .ref (ad 14))]) hx hb d_Table_fill_44 rfl hl (by decide) rfl (fun ls hl => ?_)
          refine lv_aload_n hx hb d_Table_fill_45 rfl (lv_at hl 1 rfl) ?_
          refine va_get (D := D) (ci := 4) (v := .ref (ad 2)) (C := R_Table) (T := F_Table) (N := 6) hx hb hts hn_Table hown hK hP 10 rfl rfl 0 (by decide) hL9 (fun _ h9 => h9) rfl d_Table_fill_46 ?_
          refine va_get (D := D) (ci := 1) (v := .int v_wall_steps) (C := R_Wall) (T := F_Wall) (N := 4) hx hb hts hn_Wall hown hK hP 0 rfl rfl 0 (by decide) hL23 (fun _ h9 => h9) rfl d_Table_fill_49 ?_
          refine lv_iconst (v := 1) hx hb d_Table_fill_52 (by decide) ?_
          refine lv_isub hx hb d_Table_fill_53 ?_
          refine lv_istore_n (lv' := [(2, .int (v_wall_steps - 1)), (1, .int 0), (0, .ref (ad 14))]) hx hb d_Table_fill_54 rfl hl (by decide) rfl (fun ls hl => ?_)
          exact (ih).2 0 (v_wall_steps - 1) v_tval v_tfit v_tlon hf _ _ hP hD hS ls (lv_sub hl [2, 1, 0] rfl)
        replace hf := q_ie hf c_1
        refine lv_aload_n hx hb d_Table_fill_18 rfl (lv_at hl 0 rfl) ?_
        refine va_get (D := D) (ci := 4) (v := .ref (ad 15)) (C := R_Table) (T := F_Table) (N := 6) hx hb hts hn_Table hown hK hP 10 rfl rfl 3 (by decide) hL29 (fun _ h9 => h9) rfl d_Table_fill_19 ?_
        refine lv_aload_n hx hb d_Table_fill_22 rfl (lv_at hl 0 rfl) ?_
        refine va_get (D := D) (ci := 4) (v := .ref (ad 2)) (C := R_Table) (T := F_Table) (N := 6) hx hb hts hn_Table hown hK hP 10 rfl rfl 0 (by decide) hL9 (fun _ h9 => h9) rfl d_Table_fill_23 ?_
        refine va_get (D := D) (ci := 1) (v := .int v_wall_steps) (C := R_Wall) (T := F_Wall) (N := 4) hx hb hts hn_Wall hown hK hP 0 rfl rfl 0 (by decide) hL23 (fun _ h9 => h9) rfl d_Table_fill_26 ?_
        refine lv_iconst (v := 0) hx hb d_Table_fill_29 (by decide) ?_
        obtain ⟨r_2, hc_2, hf⟩ := q_mb hf
        refine q_pcall (W.runS (As := [.int v_wall_steps, .int 0]) (rest := [.ref (ad 15)]) ⟨hx, hb, hml, hown, hts⟩ (c_Table_cell l D ad ki v_wall_steps 0 N r_2 hc_2) (va_cwS 2 hts (q_goodS ⟨m_353, m_354, m_60⟩ m_355) rfl rfl rfl (by decide +kernel) ⟨Nat.le_of_ble_eq_true rfl, Nat.le_of_ble_eq_true rfl⟩) (q_preSP (wc := []) hE hK hP [] rfl) rfl rfl hl.1 rfl (lv_room (Nat.le_of_ble_eq_true rfl)) d_Table_fill_30 ⟨Nat.le_of_ble_eq_true rfl, Nat.le_of_ble_eq_true rfl⟩) ?_
        refine lv_iload_n hx hb d_Table_fill_33 rfl (lv_at hl 1 rfl) ?_
        refine lv_iadd hx hb d_Table_fill_34 ?_
        refine lv_lconst (v := 0) hx hb d_Table_fill_35 (by decide) ?_
        obtain ⟨hi_3, hf⟩ := q_ck hf
        refine va_last hx hb hK hP hD hS 11 1 rfl rfl hi_3 d_Table_fill_36 (fun H locs hP hD hS => ?_)
        replace hP : va_P D vwCl [(ad 2, .inr (1, [.int v_wall_steps, .ref (ad 3), .ref (ad 4), .int v_wall_pipeCount])), (ad 3, .inl (ki 2, n_wfree, .inl v_wfree)), (ad 4, .inl (ki 0, n_wpip, .inl v_wpip)), (ad 5, .inr (2, [.ref (ad 6), .ref (ad 7), .ref (ad 8), .ref (ad 9), .ref (ad 10), .ref (ad 11), .ref (ad 12), .int v_items_mustSet, .int v_items_count])), (ad 6, .inl (ki 0, n_iwid, .inl v_iwid)), (ad 7, .inl (ki 0, n_inee, .inl v_inee)), (ad 8, .inl (ki 0, n_ibar, .inl v_ibar)), (ad 9, .inl (ki 1, n_inea, .inr (.inl v_inea))), (ad 10, .inl (ki 0, n_iswi, .inl v_iswi)), (ad 13, .inr (3, [.int v_fill_least, .int v_fill_most])), (ad 14, .inr (4, [.ref (ad 2), .ref (ad 5), .ref (ad 13), .ref (ad 15), .ref (ad 16), .ref (ad 17)])), (ad 15, .inl (ki 1, n_tval, .inr (.inl (vp_updL v_tval (Int32.toNatClampNeg (r_2 + x1)) 0)))), (ad 16, .inl (ki 0, n_tfit, .inl v_tfit)), (ad 17, .inl (ki 0, n_tlon, .inl v_tlon))] H := hP
        replace hD : va_D A [(ad 2, .inr (1, [.int v_wall_steps, .ref (ad 3), .ref (ad 4), .int v_wall_pipeCount])), (ad 3, .inl (ki 2, n_wfree, .inl v_wfree)), (ad 4, .inl (ki 0, n_wpip, .inl v_wpip)), (ad 5, .inr (2, [.ref (ad 6), .ref (ad 7), .ref (ad 8), .ref (ad 9), .ref (ad 10), .ref (ad 11), .ref (ad 12), .int v_items_mustSet, .int v_items_count])), (ad 6, .inl (ki 0, n_iwid, .inl v_iwid)), (ad 7, .inl (ki 0, n_inee, .inl v_inee)), (ad 8, .inl (ki 0, n_ibar, .inl v_ibar)), (ad 9, .inl (ki 1, n_inea, .inr (.inl v_inea))), (ad 10, .inl (ki 0, n_iswi, .inl v_iswi)), (ad 13, .inr (3, [.int v_fill_least, .int v_fill_most])), (ad 14, .inr (4, [.ref (ad 2), .ref (ad 5), .ref (ad 13), .ref (ad 15), .ref (ad 16), .ref (ad 17)])), (ad 15, .inl (ki 1, n_tval, .inr (.inl (vp_updL v_tval (Int32.toNatClampNeg (r_2 + x1)) 0)))), (ad 16, .inl (ki 0, n_tfit, .inl v_tfit)), (ad 17, .inl (ki 0, n_tlon, .inl v_tlon))] := hD
        refine lv_iinc (v := (x1 + 1)) (lv' := [(1, .int (x1 + 1)), (0, .ref (ad 14))]) hx hb d_Table_fill_37 hl (k := 1) rfl rfl (by decide) rfl (fun ls hl => ?_)
        refine lv_goto (tgt := 12) hx hb d_Table_fill_40 (by decide) ?_
        exact (ih).1 (x1 + 1) (vp_updL v_tval (Int32.toNatClampNeg (r_2 + x1)) 0) v_tfit v_tlon hf _ _ hP hD hS ls (lv_sub hl [1, 0] rfl)
      · intro x1 x2 v_tval v_tfit v_tlon hf H locs hP hD hS ls hl
        rw [f_Table_fill_cut_1] at hf
        refine lv_iload_n hx hb d_Table_fill_55 rfl (lv_at hl 2 rfl) ?_
        refine lv_if_lt (tgt := 94) hx hb d_Table_fill_56 (by decide) (fun c_4 => ?_) (fun c_4 => ?_)
        · replace hf := q_it hf c_4
          cases hf
          exact W.vret hx hb hr (fun t ht hW => ⟨rfl, by rw [ht]; exact hP, hS.F ht⟩) hS.2.2 d_Table_fill_94
        replace hf := q_ie hf c_4
        refine lv_aload_n hx hb d_Table_fill_59 rfl (lv_at hl 0 rfl) ?_
        refine va_get (D := D) (ci := 4) (v := .ref (ad 2)) (C := R_Table) (T := F_Table) (N := 6) hx hb hts hn_Table hown hK hP 10 rfl rfl 0 (by decide) hL9 (fun _ h9 => h9) rfl d_Table_fill_60 ?_
        refine va_get (D := D) (ci := 1) (v := .ref (ad 3)) (C := R_Wall) (T := F_Wall) (N := 4) hx hb hts hn_Wall hown hK hP 0 rfl rfl 1 (by decide) hL52 (fun _ h9 => h9) rfl d_Table_fill_63 ?_
        refine lv_iload_n hx hb d_Table_fill_66 rfl (lv_at hl 2 rfl) ?_
        obtain ⟨hi_5, hf⟩ := q_ck hf
        refine va_zald hx hb hK hP 1 2 rfl rfl hi_5 d_Table_fill_67 ?_
        refine lv_if_eq (tgt := 79) hx hb d_Table_fill_68 (by decide) (fun c_6 => ?_) (fun c_6 => ?_)
        · replace hf := q_it hf c_6
          refine lv_iinc (v := (x1 + 1)) (lv' := [(1, .int (x1 + 1)), (0, .ref (ad 14)), (2, .int x2)]) hx hb d_Table_fill_79 hl (k := 1) rfl rfl (by decide) rfl (fun ls hl => ?_)
          refine lv_aload_n hx hb d_Table_fill_82 rfl (lv_at hl 1 rfl) ?_
          refine lv_iload_n hx hb d_Table_fill_83 rfl (lv_at hl 2 rfl) ?_
          refine lv_iload_n hx hb d_Table_fill_84 rfl (lv_at hl 0 rfl) ?_
          obtain ⟨⟨v_tval_7, v_tfit_7, v_tlon_7⟩, hc_7, hf⟩ := q_mb hf
          have hC_7 : ([0, 1, 2, 3, 4, 5, 6, 7, 8, 9, 10, 11, 12, 13] : List Nat).map (fun i => ([(ad 2, .inr (1, [.int v_wall_steps, .ref (ad 3), .ref (ad 4), .int v_wall_pipeCount])), (ad 3, .inl (ki 2, n_wfree, .inl v_wfree)), (ad 4, .inl (ki 0, n_wpip, .inl v_wpip)), (ad 5, .inr (2, [.ref (ad 6), .ref (ad 7), .ref (ad 8), .ref (ad 9), .ref (ad 10), .ref (ad 11), .ref (ad 12), .int v_items_mustSet, .int v_items_count])), (ad 6, .inl (ki 0, n_iwid, .inl v_iwid)), (ad 7, .inl (ki 0, n_inee, .inl v_inee)), (ad 8, .inl (ki 0, n_ibar, .inl v_ibar)), (ad 9, .inl (ki 1, n_inea, .inr (.inl v_inea))), (ad 10, .inl (ki 0, n_iswi, .inl v_iswi)), (ad 13, .inr (3, [.int v_fill_least, .int v_fill_most])), (ad 14, .inr (4, [.ref (ad 2), .ref (ad 5), .ref (ad 13), .ref (ad 15), .ref (ad 16), .ref (ad 17)])), (ad 15, .inl (ki 1, n_tval, .inr (.inl v_tval))), (ad 16, .inl (ki 0, n_tfit, .inl v_tfit)), (ad 17, .inl (ki 0, n_tlon, .inl v_tlon))] : va_W)[i]?) = ([(ad 2, .inr (1, [.int v_wall_steps, .ref (ad 3), .ref (ad 4), .int v_wall_pipeCount])), (ad 3, .inl (ki 2, n_wfree, .inl v_wfree)), (ad 4, .inl (ki 0, n_wpip, .inl v_wpip)), (ad 5, .inr (2, [.ref (ad 6), .ref (ad 7), .ref (ad 8), .ref (ad 9), .ref (ad 10), .ref (ad 11), .ref (ad 12), .int v_items_mustSet, .int v_items_count])), (ad 6, .inl (ki 0, n_iwid, .inl v_iwid)), (ad 7, .inl (ki 0, n_inee, .inl v_inee)), (ad 8, .inl (ki 0, n_ibar, .inl v_ibar)), (ad 9, .inl (ki 1, n_inea, .inr (.inl v_inea))), (ad 10, .inl (ki 0, n_iswi, .inl v_iswi)), (ad 13, .inr (3, [.int v_fill_least, .int v_fill_most])), (ad 14, .inr (4, [.ref (ad 2), .ref (ad 5), .ref (ad 13), .ref (ad 15), .ref (ad 16), .ref (ad 17)])), (ad 15, .inl (ki 1, n_tval, .inr (.inl v_tval))), (ad 16, .inl (ki 0, n_tfit, .inl v_tfit)), (ad 17, .inl (ki 0, n_tlon, .inl v_tlon))] : va_W).map some := rfl
          refine q_mcall3 (w1 := [(ad 2, .inr (1, [.int v_wall_steps, .ref (ad 3), .ref (ad 4), .int v_wall_pipeCount])), (ad 3, .inl (ki 2, n_wfree, .inl v_wfree)), (ad 4, .inl (ki 0, n_wpip, .inl v_wpip)), (ad 5, .inr (2, [.ref (ad 6), .ref (ad 7), .ref (ad 8), .ref (ad 9), .ref (ad 10), .ref (ad 11), .ref (ad 12), .int v_items_mustSet, .int v_items_count])), (ad 6, .inl (ki 0, n_iwid, .inl v_iwid)), (ad 7, .inl (ki 0, n_inee, .inl v_inee)), (ad 8, .inl (ki 0, n_ibar, .inl v_ibar)), (ad 9, .inl (ki 1, n_inea, .inr (.inl v_inea))), (ad 10, .inl (ki 0, n_iswi, .inl v_iswi)), (ad 13, .inr (3, [.int v_fill_least, .int v_fill_most])), (ad 14, .inr (4, [.ref (ad 2), .ref (ad 5), .ref (ad 13), .ref (ad 15), .ref (ad 16), .ref (ad 17)])), (ad 15, .inl (ki 1, n_tval, .inr (.inl v_tval_7))), (ad 16, .inl (ki 0, n_tfit, .inl v_tfit_7)), (ad 17, .inl (ki 0, n_tlon, .inl v_tlon_7))]) (ws' := [(ad 2, .inr (1, [.int v_wall_steps, .ref (ad 3), .ref (ad 4), .int v_wall_pipeCount])), (ad 3, .inl (ki 2, n_wfree, .inl v_wfree)), (ad 4, .inl (ki 0, n_wpip, .inl v_wpip)), (ad 5, .inr (2, [.ref (ad 6), .ref (ad 7), .ref (ad 8), .ref (ad 9), .ref (ad 10), .ref (ad 11), .ref (ad 12), .int v_items_mustSet, .int v_items_count])), (ad 6, .inl (ki 0, n_iwid, .inl v_iwid)), (ad 7, .inl (ki 0, n_inee, .inl v_inee)), (ad 8, .inl (ki 0, n_ibar, .inl v_ibar)), (ad 9, .inl (ki 1, n_inea, .inr (.inl v_inea))), (ad 10, .inl (ki 0, n_iswi, .inl v_iswi)), (ad 13, .inr (3, [.int v_fill_least, .int v_fill_most])), (ad 14, .inr (4, [.ref (ad 2), .ref (ad 5), .ref (ad 13), .ref (ad 15), .ref (ad 16), .ref (ad 17)])), (ad 15, .inl (ki 1, n_tval, .inr (.inl v_tval_7))), (ad 16, .inl (ki 0, n_tfit, .inl v_tfit_7)), (ad 17, .inl (ki 0, n_tlon, .inl v_tlon_7))]) (wc := [(ad 2, .inr (1, [.int v_wall_steps, .ref (ad 3), .ref (ad 4), .int v_wall_pipeCount])), (ad 3, .inl (ki 2, n_wfree, .inl v_wfree)), (ad 4, .inl (ki 0, n_wpip, .inl v_wpip)), (ad 5, .inr (2, [.ref (ad 6), .ref (ad 7), .ref (ad 8), .ref (ad 9), .ref (ad 10), .ref (ad 11), .ref (ad 12), .int v_items_mustSet, .int v_items_count])), (ad 6, .inl (ki 0, n_iwid, .inl v_iwid)), (ad 7, .inl (ki 0, n_inee, .inl v_inee)), (ad 8, .inl (ki 0, n_ibar, .inl v_ibar)), (ad 9, .inl (ki 1, n_inea, .inr (.inl v_inea))), (ad 10, .inl (ki 0, n_iswi, .inl v_iswi)), (ad 13, .inr (3, [.int v_fill_least, .int v_fill_most])), (ad 14, .inr (4, [.ref (ad 2), .ref (ad 5), .ref (ad 13), .ref (ad 15), .ref (ad 16), .ref (ad 17)])), (ad 15, .inl (ki 1, n_tval, .inr (.inl v_tval))), (ad 16, .inl (ki 0, n_tfit, .inl v_tfit)), (ad 17, .inl (ki 0, n_tlon, .inl v_tlon))]) (va_runV (As := [.int x2, .int (x1 + 1)]) (rest := []) ⟨hx, hb, hml, hown, hts⟩ (c_Table_fillStep l D ad ki n_wfree n_wpip n_iwid n_inee n_ibar n_inea n_iswi n_tval n_tfit n_tlon v_wall_steps v_wall_pipeCount v_wfree v_wpip v_items_mustSet v_items_count v_iwid v_inee v_ibar v_inea v_iswi v_fill_least v_fill_most v_tval v_tfit v_tlon x2 (x1 + 1) N _ v_tval_7 v_tfit_7 v_tlon_7 hc_7) (cwV 2 hts (q_goodV ⟨m_364, m_366, m_1, m_60⟩ m_367) rfl rfl rfl (by decide +kernel) ⟨Nat.le_of_ble_eq_true rfl, Nat.le_of_ble_eq_true rfl⟩) (q_preVM3 hE hK hP hD (by decide +kernel) hC_7 10 4 rfl rfl) rfl rfl hl.1 rfl (lv_room (Nat.le_of_ble_eq_true rfl)) d_Table_fill_85 ⟨Nat.le_of_ble_eq_true rfl, Nat.le_of_ble_eq_true rfl⟩) hP hD hS hA hC_7 [ad 2, ad 3, ad 4, ad 5, ad 6, ad 7, ad 8, ad 9, ad 10, ad 13, ad 14, ad 15, ad 16, ad 17] rfl rfl (fun H1 h1 hk => (q_c (h1 0 _ rfl) (q_c (h1 1 _ rfl) (q_c (h1 2 _ rfl) (q_c (h1 3 _ rfl) (q_c (h1 4 _ rfl) (q_c (h1 5 _ rfl) (q_c (h1 6 _ rfl) (q_c (h1 7 _ rfl) (q_c (h1 8 _ rfl) (q_c (h1 9 _ rfl) (q_c (h1 10 _ rfl) (q_c (h1 11 _ rfl) (q_c (h1 12 _ rfl) (q_c (h1 13 _ rfl) q_n))))))))))))))) rfl (fun H locs hP hD hS => ?_)
          refine lv_iinc (v := (x2 + (-1))) (lv' := [(2, .int (x2 + (-1))), (1, .int (x1 + 1)), (0, .ref (ad 14))]) hx hb d_Table_fill_88 hl (k := 2) rfl rfl (by decide) rfl (fun ls hl => ?_)
          refine lv_goto (tgt := 55) hx hb d_Table_fill_91 (by decide) ?_
          exact (ih).2 (x1 + 1) (x2 + (-1)) v_tval_7 v_tfit_7 v_tlon_7 hf _ _ hP hD hS ls (lv_sub hl [2, 1, 0] rfl)
        replace hf := q_ie hf c_6
        refine lv_aload_n hx hb d_Table_fill_71 rfl (lv_at hl 0 rfl) ?_
        refine lv_iload_n hx hb d_Table_fill_72 rfl (lv_at hl 2 rfl) ?_
        obtain ⟨v_tval_8, hc_8, hf⟩ := q_mb hf
        have hC_8 : ([3, 10, 11] : List Nat).map (fun i => ([(ad 2, .inr (1, [.int v_wall_steps, .ref (ad 3), .ref (ad 4), .int v_wall_pipeCount])), (ad 3, .inl (ki 2, n_wfree, .inl v_wfree)), (ad 4, .inl (ki 0, n_wpip, .inl v_wpip)), (ad 5, .inr (2, [.ref (ad 6), .ref (ad 7), .ref (ad 8), .ref (ad 9), .ref (ad 10), .ref (ad 11), .ref (ad 12), .int v_items_mustSet, .int v_items_count])), (ad 6, .inl (ki 0, n_iwid, .inl v_iwid)), (ad 7, .inl (ki 0, n_inee, .inl v_inee)), (ad 8, .inl (ki 0, n_ibar, .inl v_ibar)), (ad 9, .inl (ki 1, n_inea, .inr (.inl v_inea))), (ad 10, .inl (ki 0, n_iswi, .inl v_iswi)), (ad 13, .inr (3, [.int v_fill_least, .int v_fill_most])), (ad 14, .inr (4, [.ref (ad 2), .ref (ad 5), .ref (ad 13), .ref (ad 15), .ref (ad 16), .ref (ad 17)])), (ad 15, .inl (ki 1, n_tval, .inr (.inl v_tval))), (ad 16, .inl (ki 0, n_tfit, .inl v_tfit)), (ad 17, .inl (ki 0, n_tlon, .inl v_tlon))] : va_W)[i]?) = ([(ad 5, .inr (2, [.ref (ad 6), .ref (ad 7), .ref (ad 8), .ref (ad 9), .ref (ad 10), .ref (ad 11), .ref (ad 12), .int v_items_mustSet, .int v_items_count])), (ad 14, .inr (4, [.ref (ad 2), .ref (ad 5), .ref (ad 13), .ref (ad 15), .ref (ad 16), .ref (ad 17)])), (ad 15, .inl (ki 1, n_tval, .inr (.inl v_tval)))] : va_W).map some := rfl
        refine q_mcall3 (w1 := [(ad 5, .inr (2, [.ref (ad 6), .ref (ad 7), .ref (ad 8), .ref (ad 9), .ref (ad 10), .ref (ad 11), .ref (ad 12), .int v_items_mustSet, .int v_items_count])), (ad 14, .inr (4, [.ref (ad 2), .ref (ad 5), .ref (ad 13), .ref (ad 15), .ref (ad 16), .ref (ad 17)])), (ad 15, .inl (ki 1, n_tval, .inr (.inl v_tval_8)))]) (ws' := [(ad 2, .inr (1, [.int v_wall_steps, .ref (ad 3), .ref (ad 4), .int v_wall_pipeCount])), (ad 3, .inl (ki 2, n_wfree, .inl v_wfree)), (ad 4, .inl (ki 0, n_wpip, .inl v_wpip)), (ad 5, .inr (2, [.ref (ad 6), .ref (ad 7), .ref (ad 8), .ref (ad 9), .ref (ad 10), .ref (ad 11), .ref (ad 12), .int v_items_mustSet, .int v_items_count])), (ad 6, .inl (ki 0, n_iwid, .inl v_iwid)), (ad 7, .inl (ki 0, n_inee, .inl v_inee)), (ad 8, .inl (ki 0, n_ibar, .inl v_ibar)), (ad 9, .inl (ki 1, n_inea, .inr (.inl v_inea))), (ad 10, .inl (ki 0, n_iswi, .inl v_iswi)), (ad 13, .inr (3, [.int v_fill_least, .int v_fill_most])), (ad 14, .inr (4, [.ref (ad 2), .ref (ad 5), .ref (ad 13), .ref (ad 15), .ref (ad 16), .ref (ad 17)])), (ad 15, .inl (ki 1, n_tval, .inr (.inl v_tval_8))), (ad 16, .inl (ki 0, n_tfit, .inl v_tfit)), (ad 17, .inl (ki 0, n_tlon, .inl v_tlon))]) (wc := [(ad 5, .inr (2, [.ref (ad 6), .ref (ad 7), .ref (ad 8), .ref (ad 9), .ref (ad 10), .ref (ad 11), .ref (ad 12), .int v_items_mustSet, .int v_items_count])), (ad 14, .inr (4, [.ref (ad 2), .ref (ad 5), .ref (ad 13), .ref (ad 15), .ref (ad 16), .ref (ad 17)])), (ad 15, .inl (ki 1, n_tval, .inr (.inl v_tval)))]) (va_runV (As := [.int x2]) (rest := []) ⟨hx, hb, hml, hown, hts⟩ (c_Table_passOver l D ad ki n_tval v_items_mustSet v_items_count v_tval x2 N _ v_tval_8 hc_8) (cwV 1 hts (q_goodV ⟨m_356, m_358, m_0, m_60⟩ m_359) rfl rfl rfl (by decide +kernel) ⟨Nat.le_of_ble_eq_true rfl, Nat.le_of_ble_eq_true rfl⟩) (q_preVM3 hE hK hP hD (by decide +kernel) hC_8 10 4 rfl rfl) rfl rfl hl.1 rfl (lv_room (Nat.le_of_ble_eq_true rfl)) d_Table_fill_73 ⟨Nat.le_of_ble_eq_true rfl, Nat.le_of_ble_eq_true rfl⟩) hP hD hS hA hC_8 [ad 2, ad 3, ad 4, ad 5, ad 6, ad 7, ad 8, ad 9, ad 10, ad 13, ad 14, ad 15, ad 16, ad 17] rfl rfl (fun H1 h1 hk => (q_c (hk 0 _ rfl (by decide)) (q_c (hk 1 _ rfl (by decide)) (q_c (hk 2 _ rfl (by decide)) (q_c (h1 0 _ rfl) (q_c (hk 4 _ rfl (by decide)) (q_c (hk 5 _ rfl (by decide)) (q_c (hk 6 _ rfl (by decide)) (q_c (hk 7 _ rfl (by decide)) (q_c (hk 8 _ rfl (by decide)) (q_c (hk 9 _ rfl (by decide)) (q_c (h1 1 _ rfl) (q_c (h1 2 _ rfl) (q_c (hk 12 _ rfl (by decide)) (q_c (hk 13 _ rfl (by decide)) q_n))))))))))))))) rfl (fun H locs hP hD hS => ?_)
        refine lv_goto (tgt := 88) hx hb d_Table_fill_76 (by decide) ?_
        refine lv_iinc (v := (x2 + (-1))) (lv' := [(2, .int (x2 + (-1))), (0, .ref (ad 14)), (1, .int x1)]) hx hb d_Table_fill_88 hl (k := 2) rfl rfl (by decide) rfl (fun ls hl => ?_)
        refine lv_goto (tgt := 55) hx hb d_Table_fill_91 (by decide) ?_
        exact (ih).2 x1 (x2 + (-1)) v_tval_8 v_tfit v_tlon hf _ _ hP hD hS ls (lv_sub hl [1, 2, 0] rfl)
  unfold f_Table_fill at hf
  refine lv_aload_n hx hb d_Table_fill_0 rfl (lv_at hl 0 rfl) ?_
  refine va_get (D := D) (ci := 4) (v := .ref (ad 15)) (C := R_Table) (T := F_Table) (N := 6) hx hb hts hn_Table hown hK hP 10 rfl rfl 3 (by decide) hL29 (fun _ h9 => h9) rfl d_Table_fill_1 ?_
  refine lv_ldc2 (v := (-1)) hx hb hown hL40 d_Table_fill_4 ?_
  obtain ⟨v_tval_9, hc_9, hf⟩ := q_mb hf
  have hC_9 : ([11] : List Nat).map (fun i => ([(ad 2, .inr (1, [.int v_wall_steps, .ref (ad 3), .ref (ad 4), .int v_wall_pipeCount])), (ad 3, .inl (ki 2, n_wfree, .inl v_wfree)), (ad 4, .inl (ki 0, n_wpip, .inl v_wpip)), (ad 5, .inr (2, [.ref (ad 6), .ref (ad 7), .ref (ad 8), .ref (ad 9), .ref (ad 10), .ref (ad 11), .ref (ad 12), .int v_items_mustSet, .int v_items_count])), (ad 6, .inl (ki 0, n_iwid, .inl v_iwid)), (ad 7, .inl (ki 0, n_inee, .inl v_inee)), (ad 8, .inl (ki 0, n_ibar, .inl v_ibar)), (ad 9, .inl (ki 1, n_inea, .inr (.inl v_inea))), (ad 10, .inl (ki 0, n_iswi, .inl v_iswi)), (ad 13, .inr (3, [.int v_fill_least, .int v_fill_most])), (ad 14, .inr (4, [.ref (ad 2), .ref (ad 5), .ref (ad 13), .ref (ad 15), .ref (ad 16), .ref (ad 17)])), (ad 15, .inl (ki 1, n_tval, .inr (.inl v_tval))), (ad 16, .inl (ki 0, n_tfit, .inl v_tfit)), (ad 17, .inl (ki 0, n_tlon, .inl v_tlon))] : va_W)[i]?) = ([(ad 15, .inl (ki 1, n_tval, .inr (.inl v_tval)))] : va_W).map some := rfl
  refine q_mcall3 (w1 := [(ad 15, .inl (ki 1, n_tval, .inr (.inl v_tval_9)))]) (ws' := [(ad 2, .inr (1, [.int v_wall_steps, .ref (ad 3), .ref (ad 4), .int v_wall_pipeCount])), (ad 3, .inl (ki 2, n_wfree, .inl v_wfree)), (ad 4, .inl (ki 0, n_wpip, .inl v_wpip)), (ad 5, .inr (2, [.ref (ad 6), .ref (ad 7), .ref (ad 8), .ref (ad 9), .ref (ad 10), .ref (ad 11), .ref (ad 12), .int v_items_mustSet, .int v_items_count])), (ad 6, .inl (ki 0, n_iwid, .inl v_iwid)), (ad 7, .inl (ki 0, n_inee, .inl v_inee)), (ad 8, .inl (ki 0, n_ibar, .inl v_ibar)), (ad 9, .inl (ki 1, n_inea, .inr (.inl v_inea))), (ad 10, .inl (ki 0, n_iswi, .inl v_iswi)), (ad 13, .inr (3, [.int v_fill_least, .int v_fill_most])), (ad 14, .inr (4, [.ref (ad 2), .ref (ad 5), .ref (ad 13), .ref (ad 15), .ref (ad 16), .ref (ad 17)])), (ad 15, .inl (ki 1, n_tval, .inr (.inl v_tval_9))), (ad 16, .inl (ki 0, n_tfit, .inl v_tfit)), (ad 17, .inl (ki 0, n_tlon, .inl v_tlon))]) (wc := [(ad 15, .inl (ki 1, n_tval, .inr (.inl v_tval)))]) (va_runS (As := [.ref (ad 15), .long (-1)]) (rest := []) ⟨hx, hb, hml, hown, hts⟩ (c_Arrays_fill_JJV l D ad ki n_tval v_tval (-1) N _ v_tval_9 hc_9) (va_cwS 2 hts (q_goodS ⟨m_350, m_351, m_63⟩ m_352) rfl rfl rfl (by decide +kernel) ⟨Nat.le_of_ble_eq_true rfl, Nat.le_of_ble_eq_true rfl⟩) (q_preSM3 hE hK hP hD (by decide +kernel) hC_9) rfl rfl hl.1 rfl (lv_room (Nat.le_of_ble_eq_true rfl)) d_Table_fill_7 ⟨Nat.le_of_ble_eq_true rfl, Nat.le_of_ble_eq_true rfl⟩) hP hD hS hA hC_9 [ad 2, ad 3, ad 4, ad 5, ad 6, ad 7, ad 8, ad 9, ad 10, ad 13, ad 14, ad 15, ad 16, ad 17] rfl rfl (fun H1 h1 hk => (q_c (hk 0 _ rfl (by decide)) (q_c (hk 1 _ rfl (by decide)) (q_c (hk 2 _ rfl (by decide)) (q_c (hk 3 _ rfl (by decide)) (q_c (hk 4 _ rfl (by decide)) (q_c (hk 5 _ rfl (by decide)) (q_c (hk 6 _ rfl (by decide)) (q_c (hk 7 _ rfl (by decide)) (q_c (hk 8 _ rfl (by decide)) (q_c (hk 9 _ rfl (by decide)) (q_c (hk 10 _ rfl (by decide)) (q_c (h1 0 _ rfl) (q_c (hk 12 _ rfl (by decide)) (q_c (hk 13 _ rfl (by decide)) q_n))))))))))))))) rfl (fun H locs hP hD hS => ?_)
  refine lv_iconst (v := 0) hx hb d_Table_fill_10 (by decide) ?_
  refine lv_istore_n (lv' := [(1, .int 0), (0, .ref (ad 14))]) hx hb d_Table_fill_11 rfl hl (by decide) rfl (fun ls hl => ?_)
  exact (key N).1 0 v_tval_9 v_tfit v_tlon hf _ _ hP hD hS ls (lv_sub hl [1, 0] rfl)
def f_Table_isItemBest (N : Nat) (n_iwid : Nat) (n_ibar : Nat) (n_inea : Nat) (n_tval : Nat) (n_tfit : Nat) (v_items_mustSet : Int32) (v_items_count : Int32) (v_iwid : Nat → Int32) (v_ibar : Nat → Int32) (v_inea : Nat → Int64) (v_tval : Nat → Int64) (v_tfit : Nat → Int32) (p1 : Int32) (p2 : Int32) (p3 : Int32) (p4 : Int32) : Option (Bool) := (if p1 < 0 ∨ n_tfit ≤ Int32.toNatClampNeg p1 then none else (Option.bind (f_RoomFills_hasItem N (p2 &&& (v_tfit (Int32.toNatClampNeg p1))) p4) (fun r_2 => (if r_2 = true then (Option.bind (f_Items_isBarred N n_ibar v_items_mustSet v_items_count v_ibar p3 p4) (fun r_4 => (if r_4 = true then (some false) else (if p4 < 0 ∨ n_iwid ≤ Int32.toNatClampNeg p4 then none else (Option.bind (f_Table_valueOf N n_tval v_tval (p1 + (v_iwid (Int32.toNatClampNeg p4))) (p2 &&& ((1 <<< (p4 &&& 31)) ^^^ (-1))) p4) (fun r_7 => (if (lg_cmp r_7 (-1)) = 0 then (some false) else (Option.bind (f_Items_nearWorthOf N n_inea v_items_mustSet v_items_count v_inea p3 p4) (fun r_9 => (Option.bind (f_Table_valueOf N n_tval v_tval p1 p2 p3) (fun r_10 => (if (lg_cmp (r_7 + r_9) r_10) = 0 then (some true) else (some false))))))))))))) else (some false)))))
set_option maxRecDepth 100000 in
set_option maxHeartbeats 4000000 in
theorem c_Table_isItemBest (l : Launch) (D : va_G) (ad : Nat → Nat) (ki : Nat → ClassId) (n_iwid : Nat) (n_ibar : Nat) (n_inea : Nat) (n_tval : Nat) (n_tfit : Nat) (v_items_mustSet : Int32) (v_items_count : Int32) (v_iwid : Nat → Int32) (v_ibar : Nat → Int32) (v_inea : Nat → Int64) (v_tval : Nat → Int64) (v_tfit : Nat → Int32) (p1 : Int32) (p2 : Int32) (p3 : Int32) (p4 : Int32) (N : Nat) (r : Bool) (hf : f_Table_isItemBest N n_iwid n_ibar n_inea n_tval n_tfit v_items_mustSet v_items_count v_iwid v_ibar v_inea v_tval v_tfit p1 p2 p3 p4 = some r) : Met l y_Table_isItemBest w_Table_isItemBest { frames := 1, cells := 0, slots := 0, locals := 23 } (q_PcP [.ref (ad 14), .int p1, .int p2, .int p3, .int p4] D vwCl [(ad 5, .inr (2, [.ref (ad 6), .ref (ad 7), .ref (ad 8), .ref (ad 9), .ref (ad 10), .ref (ad 11), .ref (ad 12), .int v_items_mustSet, .int v_items_count])), (ad 6, .inl (ki 0, n_iwid, .inl v_iwid)), (ad 8, .inl (ki 0, n_ibar, .inl v_ibar)), (ad 9, .inl (ki 1, n_inea, .inr (.inl v_inea))), (ad 14, .inr (4, [.ref (ad 2), .ref (ad 5), .ref (ad 13), .ref (ad 15), .ref (ad 16), .ref (ad 17)])), (ad 15, .inl (ki 1, n_tval, .inr (.inl v_tval))), (ad 16, .inl (ki 0, n_tfit, .inl v_tfit))] (TYS ki)) (k2_QcV (.int (bI r))) 0 0 (fun _ => False) := by
  refine Met.ofW (cc := b_Table_isItemBest) (maxL := 7) (ret := (some .boolean)) (by decide) rfl ?_
  intro p e s m args below meth c s₁ B hml hv
  obtain ⟨rfl, hP, hK, hE⟩ := hv
  have hx := B.exec
  have hb := B.bytes
  have hr := B.returns
  have hts := atoms_spec (ws := w_Table_isItemBest) B.pre
  have hown : s.vm.findClass R_Table = some m.cls := findClass_of_methodNamed B.named
  have hlocks := B.notSynchronized
  have hn_Items : ∀ w ∈ u_ws R_Items F_Items 9, w ∈ w_Table_isItemBest := (fun w h => List.mem_cons_of_mem _ (i_Items w h))
  have hn_Table : ∀ w ∈ u_ws R_Table F_Table 6, w ∈ w_Table_isItemBest := (fun w h => List.mem_cons_of_mem _ (i_Table w h))
  have hL15 := hts (.fieldLink R_Table 15 "RoomFills$Table" "items" "LRoomFills$Items;") (List.mem_cons_of_mem _ m_192)
  have hL33 := hts (.fieldLink R_Table 33 "RoomFills$Table" "fittingSet" "[I") (List.mem_cons_of_mem _ m_196)
  have hL40 := hts (.constantLong R_Table 40 (-1)) (List.mem_cons_of_mem _ m_349)
  have hL96 := hts (.fieldLink R_Table 96 "RoomFills$Items" "width" "[I") (List.mem_cons_of_mem _ m_120)
  replace hP : va_P D vwCl [(ad 5, .inr (2, [.ref (ad 6), .ref (ad 7), .ref (ad 8), .ref (ad 9), .ref (ad 10), .ref (ad 11), .ref (ad 12), .int v_items_mustSet, .int v_items_count])), (ad 6, .inl (ki 0, n_iwid, .inl v_iwid)), (ad 8, .inl (ki 0, n_ibar, .inl v_ibar)), (ad 9, .inl (ki 1, n_inea, .inr (.inl v_inea))), (ad 14, .inr (4, [.ref (ad 2), .ref (ad 5), .ref (ad 13), .ref (ad 15), .ref (ad 16), .ref (ad 17)])), (ad 15, .inl (ki 1, n_tval, .inr (.inl v_tval))), (ad 16, .inl (ki 0, n_tfit, .inl v_tfit))] s.heap := hP
  have hl := lv_entry ([.ref (ad 14), .int p1, .int p2, .int p3, .int p4]) (n := 7) (Nat.le_of_ble_eq_true rfl)
  rw [lg_entry_eq]
  generalize (lg_sl ([.ref (ad 14), .int p1, .int p2, .int p3, .int p4]) ++ List.replicate (7 - (lg_sl ([.ref (ad 14), .int p1, .int p2, .int p3, .int p4])).length) Slot.unset).toArray = ls at hl ⊢
  replace hl : lv_has ls 7 [(0, .ref (ad 14)), (1, .int p1), (2, .int p2), (3, .int p3), (4, .int p4)] := hl
  unfold f_Table_isItemBest at hf
  refine lv_iload_n hx hb d_Table_isItemBest_0 rfl (lv_at hl 2 rfl) ?_
  refine lv_aload_n hx hb d_Table_isItemBest_1 rfl (lv_at hl 0 rfl) ?_
  refine va_get (D := D) (ci := 4) (v := .ref (ad 16)) (C := R_Table) (T := F_Table) (N := 6) hx hb hts hn_Table hown hK hP 4 rfl rfl 4 (by decide) hL33 (fun _ h9 => h9) rfl d_Table_isItemBest_2 ?_
  refine lv_iload_n hx hb d_Table_isItemBest_5 rfl (lv_at hl 1 rfl) ?_
  obtain ⟨hi_1, hf⟩ := q_ck hf
  refine va_iald hx hb hK hP 6 0 rfl rfl hi_1 d_Table_isItemBest_6 ?_
  refine lv_iand hx hb d_Table_isItemBest_7 ?_
  refine lv_iload hx hb d_Table_isItemBest_8 (lv_at hl 4 rfl) ?_
  obtain ⟨r_2, hc_2, hf⟩ := q_mb hf
  refine q_pcall (va_Run.run (va_runSN (As := [.int (p2 &&& (v_tfit (Int32.toNatClampNeg p1))), .int p4]) (rest := []) ⟨hx, hb, hml, hown, hts⟩ (c_RoomFills_hasItem l D ad ki (p2 &&& (v_tfit (Int32.toNatClampNeg p1))) p4 N r_2 hc_2) ⟨va_cnB (host := R_RoomFills) 2 hts (q_goodI m_395) rfl rfl rfl (hE.1 (.methodLinkNest R_Table 107 y_RoomFills_hasItem R_RoomFills) (by decide +kernel)) (hts (.initialized R_RoomFills) (List.mem_cons_of_mem _ m_54)) (by decide +kernel) ⟨Nat.le_of_ble_eq_true rfl, Nat.le_of_ble_eq_true rfl⟩, hts (.static y_RoomFills_hasItem) (List.mem_cons_of_mem _ m_394), trivial⟩ (q_preSP (wc := []) hE hK hP [] rfl) rfl rfl hl.1 rfl (lv_room (Nat.le_of_ble_eq_true rfl)) d_Table_isItemBest_10 ⟨Nat.le_of_ble_eq_true rfl, Nat.le_of_ble_eq_true rfl⟩)) ?_
  refine zv_eq (tgt := 29) hx hb d_Table_isItemBest_13 (by decide) (fun c_3 => ?_) (fun c_3 => ?_)
  · replace hf := q_ie hf c_3
    refine lv_iconst (v := 0) hx hb d_Table_isItemBest_29 (by decide) ?_
    cases hf
    exact W.zret (v := bI false) hx hb hr (bI_nar _) (fun t ht hW => ⟨rfl, ht⟩) (fun q h => nomatch h) d_Table_isItemBest_30
  replace hf := q_it hf c_3
  refine lv_aload_n hx hb d_Table_isItemBest_16 rfl (lv_at hl 0 rfl) ?_
  refine va_get (D := D) (ci := 4) (v := .ref (ad 5)) (C := R_Table) (T := F_Table) (N := 6) hx hb hts hn_Table hown hK hP 4 rfl rfl 1 (by decide) hL15 (fun _ h9 => h9) rfl d_Table_isItemBest_17 ?_
  refine lv_iload_n hx hb d_Table_isItemBest_20 rfl (lv_at hl 3 rfl) ?_
  refine lv_iload hx hb d_Table_isItemBest_21 (lv_at hl 4 rfl) ?_
  obtain ⟨r_4, hc_4, hf⟩ := q_mb hf
  refine q_pcall (W.runV (As := [.int p3, .int p4]) (rest := []) ⟨hx, hb, hml, hown, hts⟩ (c_Items_isBarred l D ad ki n_ibar v_items_mustSet v_items_count v_ibar p3 p4 N r_4 hc_4) (cwV 2 hts (q_goodV ⟨m_456, m_457, m_458, m_57⟩ m_459) rfl rfl rfl (by decide +kernel) ⟨Nat.le_of_ble_eq_true rfl, Nat.le_of_ble_eq_true rfl⟩) (q_preVP (wc := [(ad 5, .inr (2, [.ref (ad 6), .ref (ad 7), .ref (ad 8), .ref (ad 9), .ref (ad 10), .ref (ad 11), .ref (ad 12), .int v_items_mustSet, .int v_items_count])), (ad 8, .inl (ki 0, n_ibar, .inl v_ibar))]) hE hK hP [0, 2] rfl 0 2 rfl rfl) rfl rfl hl.1 rfl (lv_room (Nat.le_of_ble_eq_true rfl)) d_Table_isItemBest_23 ⟨Nat.le_of_ble_eq_true rfl, Nat.le_of_ble_eq_true rfl⟩) ?_
  refine zv_eq (tgt := 31) hx hb d_Table_isItemBest_26 (by decide) (fun c_5 => ?_) (fun c_5 => ?_)
  · replace hf := q_ie hf c_5
    refine lv_aload_n hx hb d_Table_isItemBest_31 rfl (lv_at hl 0 rfl) ?_
    refine lv_iload_n hx hb d_Table_isItemBest_32 rfl (lv_at hl 1 rfl) ?_
    refine lv_aload_n hx hb d_Table_isItemBest_33 rfl (lv_at hl 0 rfl) ?_
    refine va_get (D := D) (ci := 4) (v := .ref (ad 5)) (C := R_Table) (T := F_Table) (N := 6) hx hb hts hn_Table hown hK hP 4 rfl rfl 1 (by decide) hL15 (fun _ h9 => h9) rfl d_Table_isItemBest_34 ?_
    refine va_get (D := D) (ci := 2) (v := .ref (ad 6)) (C := R_Items) (T := F_Items) (N := 9) hx hb hts hn_Items hown hK hP 0 rfl rfl 0 (by decide) hL96 (fun _ h9 => h9) rfl d_Table_isItemBest_37 ?_
    refine lv_iload hx hb d_Table_isItemBest_40 (lv_at hl 4 rfl) ?_
    obtain ⟨hi_6, hf⟩ := q_ck hf
    refine va_iald hx hb hK hP 1 0 rfl rfl hi_6 d_Table_isItemBest_42 ?_
    refine lv_iadd hx hb d_Table_isItemBest_43 ?_
    refine lv_iload_n hx hb d_Table_isItemBest_44 rfl (lv_at hl 2 rfl) ?_
    refine lv_iconst (v := 1) hx hb d_Table_isItemBest_45 (by decide) ?_
    refine lv_iload hx hb d_Table_isItemBest_46 (lv_at hl 4 rfl) ?_
    refine lv_ishl hx hb d_Table_isItemBest_48 ?_
    refine lv_iconst (v := (-1)) hx hb d_Table_isItemBest_49 (by decide) ?_
    refine lv_ixor hx hb d_Table_isItemBest_50 ?_
    refine lv_iand hx hb d_Table_isItemBest_51 ?_
    refine lv_iload hx hb d_Table_isItemBest_52 (lv_at hl 4 rfl) ?_
    obtain ⟨r_7, hc_7, hf⟩ := q_mb hf
    refine q_pcall (W.runV (As := [.int (p1 + (v_iwid (Int32.toNatClampNeg p4))), .int (p2 &&& ((1 <<< (p4 &&& 31)) ^^^ (-1))), .int p4]) (rest := []) ⟨hx, hb, hml, hown, hts⟩ (c_Table_valueOf l D ad ki n_tval v_tval (p1 + (v_iwid (Int32.toNatClampNeg p4))) (p2 &&& ((1 <<< (p4 &&& 31)) ^^^ (-1))) p4 N r_7 hc_7) (cwV 3 hts (q_goodV ⟨m_360, m_361, m_362, m_60⟩ m_363) rfl rfl rfl (by decide +kernel) ⟨Nat.le_of_ble_eq_true rfl, Nat.le_of_ble_eq_true rfl⟩) (q_preVP (wc := [(ad 14, .inr (4, [.ref (ad 2), .ref (ad 5), .ref (ad 13), .ref (ad 15), .ref (ad 16), .ref (ad 17)])), (ad 15, .inl (ki 1, n_tval, .inr (.inl v_tval)))]) hE hK hP [4, 5] rfl 4 4 rfl rfl) rfl rfl hl.1 rfl (lv_room (Nat.le_of_ble_eq_true rfl)) d_Table_isItemBest_54 ⟨Nat.le_of_ble_eq_true rfl, Nat.le_of_ble_eq_true rfl⟩) ?_
    refine lv_lstore (lv' := [(5, .long r_7), (0, .ref (ad 14)), (1, .int p1), (2, .int p2), (3, .int p3), (4, .int p4)]) hx hb d_Table_isItemBest_57 hl (by decide) rfl (fun ls hl => ?_)
    refine lv_lload hx hb d_Table_isItemBest_59 (lv_at hl 0 rfl) ?_
    refine lv_ldc2 (v := (-1)) hx hb hown hL40 d_Table_isItemBest_61 ?_
    refine W.lcmp hx hb d_Table_isItemBest_64 ?_
    refine lv_if_eq (tgt := 96) hx hb d_Table_isItemBest_65 (by decide) (fun c_8 => ?_) (fun c_8 => ?_)
    · replace hf := q_it hf c_8
      refine lv_iconst (v := 0) hx hb d_Table_isItemBest_96 (by decide) ?_
      cases hf
      exact W.zret (v := bI false) hx hb hr (bI_nar _) (fun t ht hW => ⟨rfl, ht⟩) (fun q h => nomatch h) d_Table_isItemBest_97
    replace hf := q_ie hf c_8
    refine lv_lload hx hb d_Table_isItemBest_68 (lv_at hl 0 rfl) ?_
    refine lv_aload_n hx hb d_Table_isItemBest_70 rfl (lv_at hl 1 rfl) ?_
    refine va_get (D := D) (ci := 4) (v := .ref (ad 5)) (C := R_Table) (T := F_Table) (N := 6) hx hb hts hn_Table hown hK hP 4 rfl rfl 1 (by decide) hL15 (fun _ h9 => h9) rfl d_Table_isItemBest_71 ?_
    refine lv_iload_n hx hb d_Table_isItemBest_74 rfl (lv_at hl 4 rfl) ?_
    refine lv_iload hx hb d_Table_isItemBest_75 (lv_at hl 5 rfl) ?_
    obtain ⟨r_9, hc_9, hf⟩ := q_mb hf
    refine q_pcall (W.runV (As := [.int p3, .int p4]) (rest := [.long r_7]) ⟨hx, hb, hml, hown, hts⟩ (c_Items_nearWorthOf l D ad ki n_inea v_items_mustSet v_items_count v_inea p3 p4 N r_9 hc_9) (cwV 2 hts (q_goodV ⟨m_460, m_461, m_462, m_57⟩ m_463) rfl rfl rfl (by decide +kernel) ⟨Nat.le_of_ble_eq_true rfl, Nat.le_of_ble_eq_true rfl⟩) (q_preVP (wc := [(ad 5, .inr (2, [.ref (ad 6), .ref (ad 7), .ref (ad 8), .ref (ad 9), .ref (ad 10), .ref (ad 11), .ref (ad 12), .int v_items_mustSet, .int v_items_count])), (ad 9, .inl (ki 1, n_inea, .inr (.inl v_inea)))]) hE hK hP [0, 3] rfl 0 2 rfl rfl) rfl rfl hl.1 rfl (lv_room (Nat.le_of_ble_eq_true rfl)) d_Table_isItemBest_77 ⟨Nat.le_of_ble_eq_true rfl, Nat.le_of_ble_eq_true rfl⟩) ?_
    refine lv_ladd hx hb d_Table_isItemBest_80 ?_
    refine lv_aload_n hx hb d_Table_isItemBest_81 rfl (lv_at hl 1 rfl) ?_
    refine lv_iload_n hx hb d_Table_isItemBest_82 rfl (lv_at hl 2 rfl) ?_
    refine lv_iload_n hx hb d_Table_isItemBest_83 rfl (lv_at hl 3 rfl) ?_
    refine lv_iload_n hx hb d_Table_isItemBest_84 rfl (lv_at hl 4 rfl) ?_
    obtain ⟨r_10, hc_10, hf⟩ := q_mb hf
    refine q_pcall (W.runV (As := [.int p1, .int p2, .int p3]) (rest := [.long (r_7 + r_9)]) ⟨hx, hb, hml, hown, hts⟩ (c_Table_valueOf l D ad ki n_tval v_tval p1 p2 p3 N r_10 hc_10) (cwV 3 hts (q_goodV ⟨m_360, m_361, m_362, m_60⟩ m_363) rfl rfl rfl (by decide +kernel) ⟨Nat.le_of_ble_eq_true rfl, Nat.le_of_ble_eq_true rfl⟩) (q_preVP (wc := [(ad 14, .inr (4, [.ref (ad 2), .ref (ad 5), .ref (ad 13), .ref (ad 15), .ref (ad 16), .ref (ad 17)])), (ad 15, .inl (ki 1, n_tval, .inr (.inl v_tval)))]) hE hK hP [4, 5] rfl 4 4 rfl rfl) rfl rfl hl.1 rfl (lv_room (Nat.le_of_ble_eq_true rfl)) d_Table_isItemBest_85 ⟨Nat.le_of_ble_eq_true rfl, Nat.le_of_ble_eq_true rfl⟩) ?_
    refine W.lcmp hx hb d_Table_isItemBest_88 ?_
    refine lv_if_ne (tgt := 96) hx hb d_Table_isItemBest_89 (by decide) (fun c_11 => ?_) (fun c_11 => ?_)
    · replace hf := q_ie hf c_11
      refine lv_iconst (v := 0) hx hb d_Table_isItemBest_96 (by decide) ?_
      cases hf
      exact W.zret (v := bI false) hx hb hr (bI_nar _) (fun t ht hW => ⟨rfl, ht⟩) (fun q h => nomatch h) d_Table_isItemBest_97
    replace hf := q_it hf c_11
    refine lv_iconst (v := 1) hx hb d_Table_isItemBest_92 (by decide) ?_
    refine lv_goto (tgt := 97) hx hb d_Table_isItemBest_93 (by decide) ?_
    cases hf
    exact W.zret (v := bI true) hx hb hr (bI_nar _) (fun t ht hW => ⟨rfl, ht⟩) (fun q h => nomatch h) d_Table_isItemBest_97
  replace hf := q_it hf c_5
  refine lv_iconst (v := 0) hx hb d_Table_isItemBest_29 (by decide) ?_
  cases hf
  exact W.zret (v := bI false) hx hb hr (bI_nar _) (fun t ht hW => ⟨rfl, ht⟩) (fun q h => nomatch h) d_Table_isItemBest_30
def f_Table_isFillerBest (N : Nat) (n_tval : Nat) (v_tval : Nat → Int64) (p1 : Int32) (p2 : Int32) (p3 : Int32) (p4 : Int32) : Option (Bool) := (Option.bind (f_Table_valueOf N n_tval v_tval (p1 + p4) p2 6) (fun r_1 => (if p3 = (6 : Int32) then (some false) else (if (lg_cmp r_1 (-1)) = 0 then (some false) else (Option.bind (f_Table_valueOf N n_tval v_tval p1 p2 p3) (fun r_4 => (if (lg_cmp r_1 r_4) = 0 then (some true) else (some false))))))))
set_option maxRecDepth 100000 in
set_option maxHeartbeats 4000000 in
theorem c_Table_isFillerBest (l : Launch) (D : va_G) (ad : Nat → Nat) (ki : Nat → ClassId) (n_tval : Nat) (v_tval : Nat → Int64) (p1 : Int32) (p2 : Int32) (p3 : Int32) (p4 : Int32) (N : Nat) (r : Bool) (hf : f_Table_isFillerBest N n_tval v_tval p1 p2 p3 p4 = some r) : Met l y_Table_isFillerBest w_Table_isFillerBest { frames := 1, cells := 0, slots := 0, locals := 23 } (q_PcP [.ref (ad 14), .int p1, .int p2, .int p3, .int p4] D vwCl [(ad 14, .inr (4, [.ref (ad 2), .ref (ad 5), .ref (ad 13), .ref (ad 15), .ref (ad 16), .ref (ad 17)])), (ad 15, .inl (ki 1, n_tval, .inr (.inl v_tval)))] (TYS ki)) (k2_QcV (.int (bI r))) 0 0 (fun _ => False) := by
  refine Met.ofW (cc := b_Table_isFillerBest) (maxL := 7) (ret := (some .boolean)) (by decide) rfl ?_
  intro p e s m args below meth c s₁ B hml hv
  obtain ⟨rfl, hP, hK, hE⟩ := hv
  have hx := B.exec
  have hb := B.bytes
  have hr := B.returns
  have hts := atoms_spec (ws := w_Table_isFillerBest) B.pre
  have hown : s.vm.findClass R_Table = some m.cls := findClass_of_methodNamed B.named
  have hlocks := B.notSynchronized
  have hL40 := hts (.constantLong R_Table 40 (-1)) (List.mem_cons_of_mem _ m_349)
  replace hP : va_P D vwCl [(ad 14, .inr (4, [.ref (ad 2), .ref (ad 5), .ref (ad 13), .ref (ad 15), .ref (ad 16), .ref (ad 17)])), (ad 15, .inl (ki 1, n_tval, .inr (.inl v_tval)))] s.heap := hP
  have hl := lv_entry ([.ref (ad 14), .int p1, .int p2, .int p3, .int p4]) (n := 7) (Nat.le_of_ble_eq_true rfl)
  rw [lg_entry_eq]
  generalize (lg_sl ([.ref (ad 14), .int p1, .int p2, .int p3, .int p4]) ++ List.replicate (7 - (lg_sl ([.ref (ad 14), .int p1, .int p2, .int p3, .int p4])).length) Slot.unset).toArray = ls at hl ⊢
  replace hl : lv_has ls 7 [(0, .ref (ad 14)), (1, .int p1), (2, .int p2), (3, .int p3), (4, .int p4)] := hl
  unfold f_Table_isFillerBest at hf
  refine lv_aload_n hx hb d_Table_isFillerBest_0 rfl (lv_at hl 0 rfl) ?_
  refine lv_iload_n hx hb d_Table_isFillerBest_1 rfl (lv_at hl 1 rfl) ?_
  refine lv_iload hx hb d_Table_isFillerBest_2 (lv_at hl 4 rfl) ?_
  refine lv_iadd hx hb d_Table_isFillerBest_4 ?_
  refine lv_iload_n hx hb d_Table_isFillerBest_5 rfl (lv_at hl 2 rfl) ?_
  refine lv_bipush (v := 6) hx hb d_Table_isFillerBest_6 (by decide) ?_
  obtain ⟨r_1, hc_1, hf⟩ := q_mb hf
  refine q_pcall (W.runV (As := [.int (p1 + p4), .int p2, .int 6]) (rest := []) ⟨hx, hb, hml, hown, hts⟩ (c_Table_valueOf l D ad ki n_tval v_tval (p1 + p4) p2 6 N r_1 hc_1) (cwV 3 hts (q_goodV ⟨m_360, m_361, m_362, m_60⟩ m_363) rfl rfl rfl (by decide +kernel) ⟨Nat.le_of_ble_eq_true rfl, Nat.le_of_ble_eq_true rfl⟩) (q_preVP (wc := [(ad 14, .inr (4, [.ref (ad 2), .ref (ad 5), .ref (ad 13), .ref (ad 15), .ref (ad 16), .ref (ad 17)])), (ad 15, .inl (ki 1, n_tval, .inr (.inl v_tval)))]) hE hK hP [0, 1] rfl 0 4 rfl rfl) rfl rfl hl.1 rfl (lv_room (Nat.le_of_ble_eq_true rfl)) d_Table_isFillerBest_8 ⟨Nat.le_of_ble_eq_true rfl, Nat.le_of_ble_eq_true rfl⟩) ?_
  refine lv_lstore (lv' := [(5, .long r_1), (0, .ref (ad 14)), (1, .int p1), (2, .int p2), (3, .int p3), (4, .int p4)]) hx hb d_Table_isFillerBest_11 hl (by decide) rfl (fun ls hl => ?_)
  refine lv_iload_n hx hb d_Table_isFillerBest_13 rfl (lv_at hl 4 rfl) ?_
  refine lv_bipush (v := 6) hx hb d_Table_isFillerBest_14 (by decide) ?_
  refine lv_icmp_eq (tgt := 45) hx hb d_Table_isFillerBest_16 (by decide) (fun c_2 => ?_) (fun c_2 => ?_)
  · replace hf := q_it hf c_2
    refine lv_iconst (v := 0) hx hb d_Table_isFillerBest_45 (by decide) ?_
    cases hf
    exact W.zret (v := bI false) hx hb hr (bI_nar _) (fun t ht hW => ⟨rfl, ht⟩) (fun q h => nomatch h) d_Table_isFillerBest_46
  replace hf := q_ie hf c_2
  refine lv_lload hx hb d_Table_isFillerBest_19 (lv_at hl 0 rfl) ?_
  refine lv_ldc2 (v := (-1)) hx hb hown hL40 d_Table_isFillerBest_21 ?_
  refine W.lcmp hx hb d_Table_isFillerBest_24 ?_
  refine lv_if_eq (tgt := 45) hx hb d_Table_isFillerBest_25 (by decide) (fun c_3 => ?_) (fun c_3 => ?_)
  · replace hf := q_it hf c_3
    refine lv_iconst (v := 0) hx hb d_Table_isFillerBest_45 (by decide) ?_
    cases hf
    exact W.zret (v := bI false) hx hb hr (bI_nar _) (fun t ht hW => ⟨rfl, ht⟩) (fun q h => nomatch h) d_Table_isFillerBest_46
  replace hf := q_ie hf c_3
  refine lv_lload hx hb d_Table_isFillerBest_28 (lv_at hl 0 rfl) ?_
  refine lv_aload_n hx hb d_Table_isFillerBest_30 rfl (lv_at hl 1 rfl) ?_
  refine lv_iload_n hx hb d_Table_isFillerBest_31 rfl (lv_at hl 2 rfl) ?_
  refine lv_iload_n hx hb d_Table_isFillerBest_32 rfl (lv_at hl 3 rfl) ?_
  refine lv_iload_n hx hb d_Table_isFillerBest_33 rfl (lv_at hl 4 rfl) ?_
  obtain ⟨r_4, hc_4, hf⟩ := q_mb hf
  refine q_pcall (W.runV (As := [.int p1, .int p2, .int p3]) (rest := [.long r_1]) ⟨hx, hb, hml, hown, hts⟩ (c_Table_valueOf l D ad ki n_tval v_tval p1 p2 p3 N r_4 hc_4) (cwV 3 hts (q_goodV ⟨m_360, m_361, m_362, m_60⟩ m_363) rfl rfl rfl (by decide +kernel) ⟨Nat.le_of_ble_eq_true rfl, Nat.le_of_ble_eq_true rfl⟩) (q_preVP (wc := [(ad 14, .inr (4, [.ref (ad 2), .ref (ad 5), .ref (ad 13), .ref (ad 15), .ref (ad 16), .ref (ad 17)])), (ad 15, .inl (ki 1, n_tval, .inr (.inl v_tval)))]) hE hK hP [0, 1] rfl 0 4 rfl rfl) rfl rfl hl.1 rfl (lv_room (Nat.le_of_ble_eq_true rfl)) d_Table_isFillerBest_34 ⟨Nat.le_of_ble_eq_true rfl, Nat.le_of_ble_eq_true rfl⟩) ?_
  refine W.lcmp hx hb d_Table_isFillerBest_37 ?_
  refine lv_if_ne (tgt := 45) hx hb d_Table_isFillerBest_38 (by decide) (fun c_5 => ?_) (fun c_5 => ?_)
  · replace hf := q_ie hf c_5
    refine lv_iconst (v := 0) hx hb d_Table_isFillerBest_45 (by decide) ?_
    cases hf
    exact W.zret (v := bI false) hx hb hr (bI_nar _) (fun t ht hW => ⟨rfl, ht⟩) (fun q h => nomatch h) d_Table_isFillerBest_46
  replace hf := q_it hf c_5
  refine lv_iconst (v := 1) hx hb d_Table_isFillerBest_41 (by decide) ?_
  refine lv_goto (tgt := 46) hx hb d_Table_isFillerBest_42 (by decide) ?_
  cases hf
  exact W.zret (v := bI true) hx hb hr (bI_nar _) (fun t ht hW => ⟨rfl, ht⟩) (fun q h => nomatch h) d_Table_isFillerBest_46
