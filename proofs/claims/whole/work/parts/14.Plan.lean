def f_Plan_clear (N : Nat) (n_pbo : Nat) (v_plan_count : Int32) (v_plan_topCount : Int32) (v_plan_itemSet : Int32) (v_plan_wholeWorth : Int64) (v_plan_wholeCents : Int64) (v_pbo : Nat → Int32) (p1 : Int64) (p2 : Int64) : Option (Int32 × Int32 × Int32 × Int64 × Int64 × (Nat → Int32)) := (Option.bind (f_Arrays_fill_IIV N n_pbo v_pbo (-1)) (fun v_pbo_1 => (some (0, 0, 0, p1, p2, v_pbo_1))))
set_option maxRecDepth 100000 in
set_option maxHeartbeats 4000000 in
theorem c_Plan_clear (l : Launch) (D : va_G) (ad : Nat → Nat) (ki : Nat → ClassId) (n_pbo : Nat) (v_plan_count : Int32) (v_plan_topCount : Int32) (v_plan_itemSet : Int32) (v_plan_wholeWorth : Int64) (v_plan_wholeCents : Int64) (v_pbo : Nat → Int32) (p1 : Int64) (p2 : Int64) (N : Nat) (sz : Nat) (ov_plan_count : Int32) (ov_plan_topCount : Int32) (ov_plan_itemSet : Int32) (ov_plan_wholeWorth : Int64) (ov_plan_wholeCents : Int64) (ov_pbo : Nat → Int32) (hf : f_Plan_clear N n_pbo v_plan_count v_plan_topCount v_plan_itemSet v_plan_wholeWorth v_plan_wholeCents v_pbo p1 p2 = some (ov_plan_count, ov_plan_topCount, ov_plan_itemSet, ov_plan_wholeWorth, ov_plan_wholeCents, ov_pbo)) : Met l y_Plan_clear w_Plan_clear { frames := 1, cells := 0, slots := 0, locals := 23 } (q_PcM [.ref (ad 18), .long p1, .long p2] D vwCl [(ad 18, .inr (5, [.ref (ad 19), .ref (ad 20), .ref (ad 21), .ref (ad 22), .ref (ad 23), .ref (ad 24), .int v_plan_count, .int v_plan_topCount, .int v_plan_itemSet, .long v_plan_wholeWorth, .long v_plan_wholeCents])), (ad 24, .inl (ki 0, n_pbo, .inl v_pbo))] (TYS ki) sz) (q_Qm (none) D vwCl [(ad 18, .inr (5, [.ref (ad 19), .ref (ad 20), .ref (ad 21), .ref (ad 22), .ref (ad 23), .ref (ad 24), .int ov_plan_count, .int ov_plan_topCount, .int ov_plan_itemSet, .long ov_plan_wholeWorth, .long ov_plan_wholeCents])), (ad 24, .inl (ki 0, n_pbo, .inl ov_pbo))] (va_A [(ad 18, .inr (5, [.ref (ad 19), .ref (ad 20), .ref (ad 21), .ref (ad 22), .ref (ad 23), .ref (ad 24), .int v_plan_count, .int v_plan_topCount, .int v_plan_itemSet, .long v_plan_wholeWorth, .long v_plan_wholeCents])), (ad 24, .inl (ki 0, n_pbo, .inl v_pbo))] sz)) 0 0 (va_A [(ad 18, .inr (5, [.ref (ad 19), .ref (ad 20), .ref (ad 21), .ref (ad 22), .ref (ad 23), .ref (ad 24), .int v_plan_count, .int v_plan_topCount, .int v_plan_itemSet, .long v_plan_wholeWorth, .long v_plan_wholeCents])), (ad 24, .inl (ki 0, n_pbo, .inl v_pbo))] sz) := by
  refine Met.ofW (cc := b_Plan_clear) (maxL := 5) (ret := none) (by decide) rfl ?_
  intro p e s m args below meth c s₁ B hml hv
  obtain ⟨rfl, hsz, hP, hK, hD0, hE⟩ := hv
  have hx := B.exec
  have hb := B.bytes
  have hr := B.returns
  have hts := atoms_spec (ws := w_Plan_clear) B.pre
  have hown : s.vm.findClass R_Plan = some m.cls := findClass_of_methodNamed B.named
  have hlocks := B.notSynchronized
  have hn_Plan : ∀ w ∈ u_ws R_Plan F_Plan 11, w ∈ w_Plan_clear := (fun w h => List.mem_cons_of_mem _ (i_Plan w h))
  have hL27 := hts (.fieldLink R_Plan 27 "RoomFills$Plan" "beginOf" "[I") (List.mem_cons_of_mem _ m_228)
  have hL36 := hts (.fieldLink R_Plan 36 "RoomFills$Plan" "count" "I") (List.mem_cons_of_mem _ m_230)
  have hL40 := hts (.fieldLink R_Plan 40 "RoomFills$Plan" "topCount" "I") (List.mem_cons_of_mem _ m_232)
  have hL43 := hts (.fieldLink R_Plan 43 "RoomFills$Plan" "itemSet" "I") (List.mem_cons_of_mem _ m_234)
  have hL46 := hts (.fieldLink R_Plan 46 "RoomFills$Plan" "wholeWorth" "J") (List.mem_cons_of_mem _ m_237)
  have hL50 := hts (.fieldLink R_Plan 50 "RoomFills$Plan" "wholeCents" "J") (List.mem_cons_of_mem _ m_239)
  subst hsz
  have hD := hD0.self (sz := s.heap.size)
  generalize hAe : va_A [(ad 18, .inr (5, [.ref (ad 19), .ref (ad 20), .ref (ad 21), .ref (ad 22), .ref (ad 23), .ref (ad 24), .int v_plan_count, .int v_plan_topCount, .int v_plan_itemSet, .long v_plan_wholeWorth, .long v_plan_wholeCents])), (ad 24, .inl (ki 0, n_pbo, .inl v_pbo))] s.heap.size = A at hD ⊢
  have hA : ∀ q : Nat, s.heap.size ≤ q → A q := fun q h => by rw [← hAe]; exact Or.inr h
  have hS : va_S A s.heap s.heap [] := va_S.rf
  replace hP : va_P D vwCl [(ad 18, .inr (5, [.ref (ad 19), .ref (ad 20), .ref (ad 21), .ref (ad 22), .ref (ad 23), .ref (ad 24), .int v_plan_count, .int v_plan_topCount, .int v_plan_itemSet, .long v_plan_wholeWorth, .long v_plan_wholeCents])), (ad 24, .inl (ki 0, n_pbo, .inl v_pbo))] s.heap := hP
  have hl := lv_entry ([.ref (ad 18), .long p1, .long p2]) (n := 5) (Nat.le_of_ble_eq_true rfl)
  rw [lg_entry_eq]
  generalize (lg_sl ([.ref (ad 18), .long p1, .long p2]) ++ List.replicate (5 - (lg_sl ([.ref (ad 18), .long p1, .long p2])).length) Slot.unset).toArray = ls at hl ⊢
  replace hl : lv_has ls 5 [(0, .ref (ad 18)), (1, .long p1), (3, .long p2)] := hl
  unfold f_Plan_clear at hf
  refine lv_aload_n hx hb d_Plan_clear_0 rfl (lv_at hl 0 rfl) ?_
  refine va_get (D := D) (ci := 5) (v := .ref (ad 24)) (C := R_Plan) (T := F_Plan) (N := 11) hx hb hts hn_Plan hown hK hP 0 rfl rfl 5 (by decide) hL27 (fun _ h9 => h9) rfl d_Plan_clear_1 ?_
  refine lv_iconst (v := (-1)) hx hb d_Plan_clear_4 (by decide) ?_
  obtain ⟨v_pbo_1, hc_1, hf⟩ := q_mb hf
  have hC_1 : ([1] : List Nat).map (fun i => ([(ad 18, .inr (5, [.ref (ad 19), .ref (ad 20), .ref (ad 21), .ref (ad 22), .ref (ad 23), .ref (ad 24), .int v_plan_count, .int v_plan_topCount, .int v_plan_itemSet, .long v_plan_wholeWorth, .long v_plan_wholeCents])), (ad 24, .inl (ki 0, n_pbo, .inl v_pbo))] : va_W)[i]?) = ([(ad 24, .inl (ki 0, n_pbo, .inl v_pbo))] : va_W).map some := rfl
  refine q_mcall3 (w1 := [(ad 24, .inl (ki 0, n_pbo, .inl v_pbo_1))]) (ws' := [(ad 18, .inr (5, [.ref (ad 19), .ref (ad 20), .ref (ad 21), .ref (ad 22), .ref (ad 23), .ref (ad 24), .int v_plan_count, .int v_plan_topCount, .int v_plan_itemSet, .long v_plan_wholeWorth, .long v_plan_wholeCents])), (ad 24, .inl (ki 0, n_pbo, .inl v_pbo_1))]) (wc := [(ad 24, .inl (ki 0, n_pbo, .inl v_pbo))]) (va_runS (As := [.ref (ad 24), .int (-1)]) (rest := []) ⟨hx, hb, hml, hown, hts⟩ (c_Arrays_fill_IIV l D ad ki n_pbo v_pbo (-1) N _ v_pbo_1 hc_1) (va_cwS 2 hts (q_goodS ⟨m_431, m_304, m_63⟩ m_305) rfl rfl rfl (by decide +kernel) ⟨Nat.le_of_ble_eq_true rfl, Nat.le_of_ble_eq_true rfl⟩) (q_preSM3 hE hK hP hD (by decide +kernel) hC_1) rfl rfl hl.1 rfl (lv_room (Nat.le_of_ble_eq_true rfl)) d_Plan_clear_5 ⟨Nat.le_of_ble_eq_true rfl, Nat.le_of_ble_eq_true rfl⟩) hP hD hS hA hC_1 [ad 18, ad 24] rfl rfl (fun H1 h1 hk => (q_c (hk 0 _ rfl (by decide)) (q_c (h1 0 _ rfl) q_n))) rfl (fun H locs hP hD hS => ?_)
  refine lv_aload_n hx hb d_Plan_clear_8 rfl (lv_at hl 0 rfl) ?_
  refine lv_iconst (v := 0) hx hb d_Plan_clear_9 (by decide) ?_
  refine va_put (D := D) (ci := 5) (v := .int 0) (ty := .int) (C := R_Plan) (T := F_Plan) (N := 11) hx hb hts hn_Plan t_Plan t_Plan_ok n_Plan hown hK hP hD hS 0 rfl rfl 6 (by decide) hL36 (fun _ h9 => h9) rfl (by decide +kernel) rfl rfl (Nat.le_of_ble_eq_true rfl) d_Plan_clear_10 (fun H locs hP hD hS => ?_)
  replace hP : va_P D vwCl [(ad 18, .inr (5, [.ref (ad 19), .ref (ad 20), .ref (ad 21), .ref (ad 22), .ref (ad 23), .ref (ad 24), .int 0, .int v_plan_topCount, .int v_plan_itemSet, .long v_plan_wholeWorth, .long v_plan_wholeCents])), (ad 24, .inl (ki 0, n_pbo, .inl v_pbo_1))] H := hP
  replace hD : va_D A [(ad 18, .inr (5, [.ref (ad 19), .ref (ad 20), .ref (ad 21), .ref (ad 22), .ref (ad 23), .ref (ad 24), .int 0, .int v_plan_topCount, .int v_plan_itemSet, .long v_plan_wholeWorth, .long v_plan_wholeCents])), (ad 24, .inl (ki 0, n_pbo, .inl v_pbo_1))] := hD
  refine lv_aload_n hx hb d_Plan_clear_13 rfl (lv_at hl 0 rfl) ?_
  refine lv_iconst (v := 0) hx hb d_Plan_clear_14 (by decide) ?_
  refine va_put (D := D) (ci := 5) (v := .int 0) (ty := .int) (C := R_Plan) (T := F_Plan) (N := 11) hx hb hts hn_Plan t_Plan t_Plan_ok n_Plan hown hK hP hD hS 0 rfl rfl 7 (by decide) hL40 (fun _ h9 => h9) rfl (by decide +kernel) rfl rfl (Nat.le_of_ble_eq_true rfl) d_Plan_clear_15 (fun H locs hP hD hS => ?_)
  replace hP : va_P D vwCl [(ad 18, .inr (5, [.ref (ad 19), .ref (ad 20), .ref (ad 21), .ref (ad 22), .ref (ad 23), .ref (ad 24), .int 0, .int 0, .int v_plan_itemSet, .long v_plan_wholeWorth, .long v_plan_wholeCents])), (ad 24, .inl (ki 0, n_pbo, .inl v_pbo_1))] H := hP
  replace hD : va_D A [(ad 18, .inr (5, [.ref (ad 19), .ref (ad 20), .ref (ad 21), .ref (ad 22), .ref (ad 23), .ref (ad 24), .int 0, .int 0, .int v_plan_itemSet, .long v_plan_wholeWorth, .long v_plan_wholeCents])), (ad 24, .inl (ki 0, n_pbo, .inl v_pbo_1))] := hD
  refine lv_aload_n hx hb d_Plan_clear_18 rfl (lv_at hl 0 rfl) ?_
  refine lv_iconst (v := 0) hx hb d_Plan_clear_19 (by decide) ?_
  refine va_put (D := D) (ci := 5) (v := .int 0) (ty := .int) (C := R_Plan) (T := F_Plan) (N := 11) hx hb hts hn_Plan t_Plan t_Plan_ok n_Plan hown hK hP hD hS 0 rfl rfl 8 (by decide) hL43 (fun _ h9 => h9) rfl (by decide +kernel) rfl rfl (Nat.le_of_ble_eq_true rfl) d_Plan_clear_20 (fun H locs hP hD hS => ?_)
  replace hP : va_P D vwCl [(ad 18, .inr (5, [.ref (ad 19), .ref (ad 20), .ref (ad 21), .ref (ad 22), .ref (ad 23), .ref (ad 24), .int 0, .int 0, .int 0, .long v_plan_wholeWorth, .long v_plan_wholeCents])), (ad 24, .inl (ki 0, n_pbo, .inl v_pbo_1))] H := hP
  replace hD : va_D A [(ad 18, .inr (5, [.ref (ad 19), .ref (ad 20), .ref (ad 21), .ref (ad 22), .ref (ad 23), .ref (ad 24), .int 0, .int 0, .int 0, .long v_plan_wholeWorth, .long v_plan_wholeCents])), (ad 24, .inl (ki 0, n_pbo, .inl v_pbo_1))] := hD
  refine lv_aload_n hx hb d_Plan_clear_23 rfl (lv_at hl 0 rfl) ?_
  refine lv_lload_n hx hb d_Plan_clear_24 rfl (lv_at hl 1 rfl) ?_
  refine va_put (D := D) (ci := 5) (v := .long p1) (ty := .long) (C := R_Plan) (T := F_Plan) (N := 11) hx hb hts hn_Plan t_Plan t_Plan_ok n_Plan hown hK hP hD hS 0 rfl rfl 9 (by decide) hL46 (fun _ h9 => h9) rfl (by decide +kernel) rfl rfl (Nat.le_of_ble_eq_true rfl) d_Plan_clear_25 (fun H locs hP hD hS => ?_)
  replace hP : va_P D vwCl [(ad 18, .inr (5, [.ref (ad 19), .ref (ad 20), .ref (ad 21), .ref (ad 22), .ref (ad 23), .ref (ad 24), .int 0, .int 0, .int 0, .long p1, .long v_plan_wholeCents])), (ad 24, .inl (ki 0, n_pbo, .inl v_pbo_1))] H := hP
  replace hD : va_D A [(ad 18, .inr (5, [.ref (ad 19), .ref (ad 20), .ref (ad 21), .ref (ad 22), .ref (ad 23), .ref (ad 24), .int 0, .int 0, .int 0, .long p1, .long v_plan_wholeCents])), (ad 24, .inl (ki 0, n_pbo, .inl v_pbo_1))] := hD
  refine lv_aload_n hx hb d_Plan_clear_28 rfl (lv_at hl 0 rfl) ?_
  refine lv_lload_n hx hb d_Plan_clear_29 rfl (lv_at hl 2 rfl) ?_
  refine va_put (D := D) (ci := 5) (v := .long p2) (ty := .long) (C := R_Plan) (T := F_Plan) (N := 11) hx hb hts hn_Plan t_Plan t_Plan_ok n_Plan hown hK hP hD hS 0 rfl rfl 10 (by decide) hL50 (fun _ h9 => h9) rfl (by decide +kernel) rfl rfl (Nat.le_of_ble_eq_true rfl) d_Plan_clear_30 (fun H locs hP hD hS => ?_)
  replace hP : va_P D vwCl [(ad 18, .inr (5, [.ref (ad 19), .ref (ad 20), .ref (ad 21), .ref (ad 22), .ref (ad 23), .ref (ad 24), .int 0, .int 0, .int 0, .long p1, .long p2])), (ad 24, .inl (ki 0, n_pbo, .inl v_pbo_1))] H := hP
  replace hD : va_D A [(ad 18, .inr (5, [.ref (ad 19), .ref (ad 20), .ref (ad 21), .ref (ad 22), .ref (ad 23), .ref (ad 24), .int 0, .int 0, .int 0, .long p1, .long p2])), (ad 24, .inl (ki 0, n_pbo, .inl v_pbo_1))] := hD
  cases hf
  exact W.vret hx hb hr (fun t ht hW => ⟨rfl, by rw [ht]; exact hP, hS.F ht⟩) hS.2.2 d_Plan_clear_33
def f_Plan_addToTops (N : Nat) (n_ptb : Nat) (n_pts : Nat) (v_plan_count : Int32) (v_plan_topCount : Int32) (v_plan_itemSet : Int32) (v_plan_wholeWorth : Int64) (v_plan_wholeCents : Int64) (v_ptb : Nat → Int32) (v_pts : Nat → Int32) (p1 : Int32) (p2 : Int32) : Option (Int32 × (Nat → Int32) × (Nat → Int32)) := (if (v_plan_topCount - 1) < 0 then (if v_plan_topCount < 0 ∨ n_ptb ≤ Int32.toNatClampNeg v_plan_topCount then none else (if v_plan_topCount < 0 ∨ n_pts ≤ Int32.toNatClampNeg v_plan_topCount then none else (some ((v_plan_topCount + 1), (upd v_ptb (Int32.toNatClampNeg v_plan_topCount) p1), (upd v_pts (Int32.toNatClampNeg v_plan_topCount) p2))))) else (if (v_plan_topCount - 1) < 0 ∨ n_ptb ≤ Int32.toNatClampNeg (v_plan_topCount - 1) then none else (if (v_plan_topCount - 1) < 0 ∨ n_pts ≤ Int32.toNatClampNeg (v_plan_topCount - 1) then none else (if ((v_ptb (Int32.toNatClampNeg (v_plan_topCount - 1))) + (v_pts (Int32.toNatClampNeg (v_plan_topCount - 1)))) = p1 then (if (v_plan_topCount - 1) < 0 ∨ n_pts ≤ Int32.toNatClampNeg (v_plan_topCount - 1) then none else (if (v_plan_topCount - 1) < 0 ∨ n_pts ≤ Int32.toNatClampNeg (v_plan_topCount - 1) then none else (some (v_plan_topCount, v_ptb, (upd v_pts (Int32.toNatClampNeg (v_plan_topCount - 1)) ((v_pts (Int32.toNatClampNeg (v_plan_topCount - 1))) + p2)))))) else (if v_plan_topCount < 0 ∨ n_ptb ≤ Int32.toNatClampNeg v_plan_topCount then none else (if v_plan_topCount < 0 ∨ n_pts ≤ Int32.toNatClampNeg v_plan_topCount then none else (some ((v_plan_topCount + 1), (upd v_ptb (Int32.toNatClampNeg v_plan_topCount) p1), (upd v_pts (Int32.toNatClampNeg v_plan_topCount) p2)))))))))
set_option maxRecDepth 100000 in
set_option maxHeartbeats 4000000 in
theorem c_Plan_addToTops (l : Launch) (D : va_G) (ad : Nat → Nat) (ki : Nat → ClassId) (n_ptb : Nat) (n_pts : Nat) (v_plan_count : Int32) (v_plan_topCount : Int32) (v_plan_itemSet : Int32) (v_plan_wholeWorth : Int64) (v_plan_wholeCents : Int64) (v_ptb : Nat → Int32) (v_pts : Nat → Int32) (p1 : Int32) (p2 : Int32) (N : Nat) (sz : Nat) (ov_plan_topCount : Int32) (ov_ptb : Nat → Int32) (ov_pts : Nat → Int32) (hf : f_Plan_addToTops N n_ptb n_pts v_plan_count v_plan_topCount v_plan_itemSet v_plan_wholeWorth v_plan_wholeCents v_ptb v_pts p1 p2 = some (ov_plan_topCount, ov_ptb, ov_pts)) : Met l y_Plan_addToTops w_Plan_addToTops { frames := 0, cells := 0, slots := 0, locals := 0 } (q_PcM [.ref (ad 18), .int p1, .int p2] D vwCl [(ad 18, .inr (5, [.ref (ad 19), .ref (ad 20), .ref (ad 21), .ref (ad 22), .ref (ad 23), .ref (ad 24), .int v_plan_count, .int v_plan_topCount, .int v_plan_itemSet, .long v_plan_wholeWorth, .long v_plan_wholeCents])), (ad 22, .inl (ki 0, n_ptb, .inl v_ptb)), (ad 23, .inl (ki 0, n_pts, .inl v_pts))] (TYS ki) sz) (q_Qm (none) D vwCl [(ad 18, .inr (5, [.ref (ad 19), .ref (ad 20), .ref (ad 21), .ref (ad 22), .ref (ad 23), .ref (ad 24), .int v_plan_count, .int ov_plan_topCount, .int v_plan_itemSet, .long v_plan_wholeWorth, .long v_plan_wholeCents])), (ad 22, .inl (ki 0, n_ptb, .inl ov_ptb)), (ad 23, .inl (ki 0, n_pts, .inl ov_pts))] (va_A [(ad 18, .inr (5, [.ref (ad 19), .ref (ad 20), .ref (ad 21), .ref (ad 22), .ref (ad 23), .ref (ad 24), .int v_plan_count, .int v_plan_topCount, .int v_plan_itemSet, .long v_plan_wholeWorth, .long v_plan_wholeCents])), (ad 22, .inl (ki 0, n_ptb, .inl v_ptb)), (ad 23, .inl (ki 0, n_pts, .inl v_pts))] sz)) 0 0 (va_A [(ad 18, .inr (5, [.ref (ad 19), .ref (ad 20), .ref (ad 21), .ref (ad 22), .ref (ad 23), .ref (ad 24), .int v_plan_count, .int v_plan_topCount, .int v_plan_itemSet, .long v_plan_wholeWorth, .long v_plan_wholeCents])), (ad 22, .inl (ki 0, n_ptb, .inl v_ptb)), (ad 23, .inl (ki 0, n_pts, .inl v_pts))] sz) := by
  refine Met.ofW (cc := b_Plan_addToTops) (maxL := 4) (ret := none) (by decide) rfl ?_
  intro p e s m args below meth c s₁ B hml hv
  obtain ⟨rfl, hsz, hP, hK, hD0, hE⟩ := hv
  have hx := B.exec
  have hb := B.bytes
  have hr := B.returns
  have hts := atoms_spec (ws := w_Plan_addToTops) B.pre
  have hown : s.vm.findClass R_Plan = some m.cls := findClass_of_methodNamed B.named
  have hlocks := B.notSynchronized
  have hn_Plan : ∀ w ∈ u_ws R_Plan F_Plan 11, w ∈ w_Plan_addToTops := (fun w h => List.mem_cons_of_mem _ (i_Plan w h))
  have hL21 := hts (.fieldLink R_Plan 21 "RoomFills$Plan" "topBegin" "[I") (List.mem_cons_of_mem _ m_224)
  have hL24 := hts (.fieldLink R_Plan 24 "RoomFills$Plan" "topSteps" "[I") (List.mem_cons_of_mem _ m_226)
  have hL40 := hts (.fieldLink R_Plan 40 "RoomFills$Plan" "topCount" "I") (List.mem_cons_of_mem _ m_232)
  subst hsz
  have hD := hD0.self (sz := s.heap.size)
  generalize hAe : va_A [(ad 18, .inr (5, [.ref (ad 19), .ref (ad 20), .ref (ad 21), .ref (ad 22), .ref (ad 23), .ref (ad 24), .int v_plan_count, .int v_plan_topCount, .int v_plan_itemSet, .long v_plan_wholeWorth, .long v_plan_wholeCents])), (ad 22, .inl (ki 0, n_ptb, .inl v_ptb)), (ad 23, .inl (ki 0, n_pts, .inl v_pts))] s.heap.size = A at hD ⊢
  have hA : ∀ q : Nat, s.heap.size ≤ q → A q := fun q h => by rw [← hAe]; exact Or.inr h
  have hS : va_S A s.heap s.heap [] := va_S.rf
  replace hP : va_P D vwCl [(ad 18, .inr (5, [.ref (ad 19), .ref (ad 20), .ref (ad 21), .ref (ad 22), .ref (ad 23), .ref (ad 24), .int v_plan_count, .int v_plan_topCount, .int v_plan_itemSet, .long v_plan_wholeWorth, .long v_plan_wholeCents])), (ad 22, .inl (ki 0, n_ptb, .inl v_ptb)), (ad 23, .inl (ki 0, n_pts, .inl v_pts))] s.heap := hP
  have hl := lv_entry ([.ref (ad 18), .int p1, .int p2]) (n := 4) (Nat.le_of_ble_eq_true rfl)
  rw [lg_entry_eq]
  generalize (lg_sl ([.ref (ad 18), .int p1, .int p2]) ++ List.replicate (4 - (lg_sl ([.ref (ad 18), .int p1, .int p2])).length) Slot.unset).toArray = ls at hl ⊢
  replace hl : lv_has ls 4 [(0, .ref (ad 18)), (1, .int p1), (2, .int p2)] := hl
  unfold f_Plan_addToTops at hf
  refine lv_aload_n hx hb d_Plan_addToTops_0 rfl (lv_at hl 0 rfl) ?_
  refine va_get (D := D) (ci := 5) (v := .int v_plan_topCount) (C := R_Plan) (T := F_Plan) (N := 11) hx hb hts hn_Plan hown hK hP 0 rfl rfl 7 (by decide) hL40 (fun _ h9 => h9) rfl d_Plan_addToTops_1 ?_
  refine lv_iconst (v := 1) hx hb d_Plan_addToTops_4 (by decide) ?_
  refine lv_isub hx hb d_Plan_addToTops_5 ?_
  refine lv_istore_n (lv' := [(3, .int (v_plan_topCount - 1)), (0, .ref (ad 18)), (1, .int p1), (2, .int p2)]) hx hb d_Plan_addToTops_6 rfl hl (by decide) rfl (fun ls hl => ?_)
  refine lv_iload_n hx hb d_Plan_addToTops_7 rfl (lv_at hl 0 rfl) ?_
  refine lv_if_lt (tgt := 39) hx hb d_Plan_addToTops_8 (by decide) (fun c_1 => ?_) (fun c_1 => ?_)
  · replace hf := q_it hf c_1
    refine lv_aload_n hx hb d_Plan_addToTops_39 rfl (lv_at hl 1 rfl) ?_
    refine va_get (D := D) (ci := 5) (v := .ref (ad 22)) (C := R_Plan) (T := F_Plan) (N := 11) hx hb hts hn_Plan hown hK hP 0 rfl rfl 3 (by decide) hL21 (fun _ h9 => h9) rfl d_Plan_addToTops_40 ?_
    refine lv_aload_n hx hb d_Plan_addToTops_43 rfl (lv_at hl 1 rfl) ?_
    refine va_get (D := D) (ci := 5) (v := .int v_plan_topCount) (C := R_Plan) (T := F_Plan) (N := 11) hx hb hts hn_Plan hown hK hP 0 rfl rfl 7 (by decide) hL40 (fun _ h9 => h9) rfl d_Plan_addToTops_44 ?_
    refine lv_iload_n hx hb d_Plan_addToTops_47 rfl (lv_at hl 2 rfl) ?_
    obtain ⟨hi_2, hf⟩ := q_ck hf
    refine va_iast hx hb hK hP hD hS 1 0 rfl rfl hi_2 d_Plan_addToTops_48 (fun H locs hP hD hS => ?_)
    replace hP : va_P D vwCl [(ad 18, .inr (5, [.ref (ad 19), .ref (ad 20), .ref (ad 21), .ref (ad 22), .ref (ad 23), .ref (ad 24), .int v_plan_count, .int v_plan_topCount, .int v_plan_itemSet, .long v_plan_wholeWorth, .long v_plan_wholeCents])), (ad 22, .inl (ki 0, n_ptb, .inl (upd v_ptb (Int32.toNatClampNeg v_plan_topCount) p1))), (ad 23, .inl (ki 0, n_pts, .inl v_pts))] H := hP
    replace hD : va_D A [(ad 18, .inr (5, [.ref (ad 19), .ref (ad 20), .ref (ad 21), .ref (ad 22), .ref (ad 23), .ref (ad 24), .int v_plan_count, .int v_plan_topCount, .int v_plan_itemSet, .long v_plan_wholeWorth, .long v_plan_wholeCents])), (ad 22, .inl (ki 0, n_ptb, .inl (upd v_ptb (Int32.toNatClampNeg v_plan_topCount) p1))), (ad 23, .inl (ki 0, n_pts, .inl v_pts))] := hD
    refine lv_aload_n hx hb d_Plan_addToTops_49 rfl (lv_at hl 1 rfl) ?_
    refine va_get (D := D) (ci := 5) (v := .ref (ad 23)) (C := R_Plan) (T := F_Plan) (N := 11) hx hb hts hn_Plan hown hK hP 0 rfl rfl 4 (by decide) hL24 (fun _ h9 => h9) rfl d_Plan_addToTops_50 ?_
    refine lv_aload_n hx hb d_Plan_addToTops_53 rfl (lv_at hl 1 rfl) ?_
    refine va_get (D := D) (ci := 5) (v := .int v_plan_topCount) (C := R_Plan) (T := F_Plan) (N := 11) hx hb hts hn_Plan hown hK hP 0 rfl rfl 7 (by decide) hL40 (fun _ h9 => h9) rfl d_Plan_addToTops_54 ?_
    refine lv_iload_n hx hb d_Plan_addToTops_57 rfl (lv_at hl 3 rfl) ?_
    obtain ⟨hi_3, hf⟩ := q_ck hf
    refine va_iast hx hb hK hP hD hS 2 0 rfl rfl hi_3 d_Plan_addToTops_58 (fun H locs hP hD hS => ?_)
    replace hP : va_P D vwCl [(ad 18, .inr (5, [.ref (ad 19), .ref (ad 20), .ref (ad 21), .ref (ad 22), .ref (ad 23), .ref (ad 24), .int v_plan_count, .int v_plan_topCount, .int v_plan_itemSet, .long v_plan_wholeWorth, .long v_plan_wholeCents])), (ad 22, .inl (ki 0, n_ptb, .inl (upd v_ptb (Int32.toNatClampNeg v_plan_topCount) p1))), (ad 23, .inl (ki 0, n_pts, .inl (upd v_pts (Int32.toNatClampNeg v_plan_topCount) p2)))] H := hP
    replace hD : va_D A [(ad 18, .inr (5, [.ref (ad 19), .ref (ad 20), .ref (ad 21), .ref (ad 22), .ref (ad 23), .ref (ad 24), .int v_plan_count, .int v_plan_topCount, .int v_plan_itemSet, .long v_plan_wholeWorth, .long v_plan_wholeCents])), (ad 22, .inl (ki 0, n_ptb, .inl (upd v_ptb (Int32.toNatClampNeg v_plan_topCount) p1))), (ad 23, .inl (ki 0, n_pts, .inl (upd v_pts (Int32.toNatClampNeg v_plan_topCount) p2)))] := hD
    refine lv_aload_n hx hb d_Plan_addToTops_59 rfl (lv_at hl 1 rfl) ?_
    refine lv_dup hx hb d_Plan_addToTops_60 rfl ?_
    refine va_get (D := D) (ci := 5) (v := .int v_plan_topCount) (C := R_Plan) (T := F_Plan) (N := 11) hx hb hts hn_Plan hown hK hP 0 rfl rfl 7 (by decide) hL40 (fun _ h9 => h9) rfl d_Plan_addToTops_61 ?_
    refine lv_iconst (v := 1) hx hb d_Plan_addToTops_64 (by decide) ?_
    refine lv_iadd hx hb d_Plan_addToTops_65 ?_
    refine va_put (D := D) (ci := 5) (v := .int (v_plan_topCount + 1)) (ty := .int) (C := R_Plan) (T := F_Plan) (N := 11) hx hb hts hn_Plan t_Plan t_Plan_ok n_Plan hown hK hP hD hS 0 rfl rfl 7 (by decide) hL40 (fun _ h9 => h9) rfl (by decide +kernel) rfl rfl (Nat.le_of_ble_eq_true rfl) d_Plan_addToTops_66 (fun H locs hP hD hS => ?_)
    replace hP : va_P D vwCl [(ad 18, .inr (5, [.ref (ad 19), .ref (ad 20), .ref (ad 21), .ref (ad 22), .ref (ad 23), .ref (ad 24), .int v_plan_count, .int (v_plan_topCount + 1), .int v_plan_itemSet, .long v_plan_wholeWorth, .long v_plan_wholeCents])), (ad 22, .inl (ki 0, n_ptb, .inl (upd v_ptb (Int32.toNatClampNeg v_plan_topCount) p1))), (ad 23, .inl (ki 0, n_pts, .inl (upd v_pts (Int32.toNatClampNeg v_plan_topCount) p2)))] H := hP
    replace hD : va_D A [(ad 18, .inr (5, [.ref (ad 19), .ref (ad 20), .ref (ad 21), .ref (ad 22), .ref (ad 23), .ref (ad 24), .int v_plan_count, .int (v_plan_topCount + 1), .int v_plan_itemSet, .long v_plan_wholeWorth, .long v_plan_wholeCents])), (ad 22, .inl (ki 0, n_ptb, .inl (upd v_ptb (Int32.toNatClampNeg v_plan_topCount) p1))), (ad 23, .inl (ki 0, n_pts, .inl (upd v_pts (Int32.toNatClampNeg v_plan_topCount) p2)))] := hD
    cases hf
    exact W.vret hx hb hr (fun t ht hW => ⟨rfl, by rw [ht]; exact hP, hS.F ht⟩) hS.2.2 d_Plan_addToTops_69
  replace hf := q_ie hf c_1
  refine lv_aload_n hx hb d_Plan_addToTops_11 rfl (lv_at hl 1 rfl) ?_
  refine va_get (D := D) (ci := 5) (v := .ref (ad 22)) (C := R_Plan) (T := F_Plan) (N := 11) hx hb hts hn_Plan hown hK hP 0 rfl rfl 3 (by decide) hL21 (fun _ h9 => h9) rfl d_Plan_addToTops_12 ?_
  refine lv_iload_n hx hb d_Plan_addToTops_15 rfl (lv_at hl 0 rfl) ?_
  obtain ⟨hi_4, hf⟩ := q_ck hf
  refine va_iald hx hb hK hP 1 0 rfl rfl hi_4 d_Plan_addToTops_16 ?_
  refine lv_aload_n hx hb d_Plan_addToTops_17 rfl (lv_at hl 1 rfl) ?_
  refine va_get (D := D) (ci := 5) (v := .ref (ad 23)) (C := R_Plan) (T := F_Plan) (N := 11) hx hb hts hn_Plan hown hK hP 0 rfl rfl 4 (by decide) hL24 (fun _ h9 => h9) rfl d_Plan_addToTops_18 ?_
  refine lv_iload_n hx hb d_Plan_addToTops_21 rfl (lv_at hl 0 rfl) ?_
  obtain ⟨hi_5, hf⟩ := q_ck hf
  refine va_iald hx hb hK hP 2 0 rfl rfl hi_5 d_Plan_addToTops_22 ?_
  refine lv_iadd hx hb d_Plan_addToTops_23 ?_
  refine lv_iload_n hx hb d_Plan_addToTops_24 rfl (lv_at hl 2 rfl) ?_
  refine lv_icmp_ne (tgt := 39) hx hb d_Plan_addToTops_25 (by decide) (fun c_6 => ?_) (fun c_6 => ?_)
  · replace hf := q_ie hf c_6
    refine lv_aload_n hx hb d_Plan_addToTops_39 rfl (lv_at hl 1 rfl) ?_
    refine va_get (D := D) (ci := 5) (v := .ref (ad 22)) (C := R_Plan) (T := F_Plan) (N := 11) hx hb hts hn_Plan hown hK hP 0 rfl rfl 3 (by decide) hL21 (fun _ h9 => h9) rfl d_Plan_addToTops_40 ?_
    refine lv_aload_n hx hb d_Plan_addToTops_43 rfl (lv_at hl 1 rfl) ?_
    refine va_get (D := D) (ci := 5) (v := .int v_plan_topCount) (C := R_Plan) (T := F_Plan) (N := 11) hx hb hts hn_Plan hown hK hP 0 rfl rfl 7 (by decide) hL40 (fun _ h9 => h9) rfl d_Plan_addToTops_44 ?_
    refine lv_iload_n hx hb d_Plan_addToTops_47 rfl (lv_at hl 2 rfl) ?_
    obtain ⟨hi_7, hf⟩ := q_ck hf
    refine va_iast hx hb hK hP hD hS 1 0 rfl rfl hi_7 d_Plan_addToTops_48 (fun H locs hP hD hS => ?_)
    replace hP : va_P D vwCl [(ad 18, .inr (5, [.ref (ad 19), .ref (ad 20), .ref (ad 21), .ref (ad 22), .ref (ad 23), .ref (ad 24), .int v_plan_count, .int v_plan_topCount, .int v_plan_itemSet, .long v_plan_wholeWorth, .long v_plan_wholeCents])), (ad 22, .inl (ki 0, n_ptb, .inl (upd v_ptb (Int32.toNatClampNeg v_plan_topCount) p1))), (ad 23, .inl (ki 0, n_pts, .inl v_pts))] H := hP
    replace hD : va_D A [(ad 18, .inr (5, [.ref (ad 19), .ref (ad 20), .ref (ad 21), .ref (ad 22), .ref (ad 23), .ref (ad 24), .int v_plan_count, .int v_plan_topCount, .int v_plan_itemSet, .long v_plan_wholeWorth, .long v_plan_wholeCents])), (ad 22, .inl (ki 0, n_ptb, .inl (upd v_ptb (Int32.toNatClampNeg v_plan_topCount) p1))), (ad 23, .inl (ki 0, n_pts, .inl v_pts))] := hD
    refine lv_aload_n hx hb d_Plan_addToTops_49 rfl (lv_at hl 1 rfl) ?_
    refine va_get (D := D) (ci := 5) (v := .ref (ad 23)) (C := R_Plan) (T := F_Plan) (N := 11) hx hb hts hn_Plan hown hK hP 0 rfl rfl 4 (by decide) hL24 (fun _ h9 => h9) rfl d_Plan_addToTops_50 ?_
    refine lv_aload_n hx hb d_Plan_addToTops_53 rfl (lv_at hl 1 rfl) ?_
    refine va_get (D := D) (ci := 5) (v := .int v_plan_topCount) (C := R_Plan) (T := F_Plan) (N := 11) hx hb hts hn_Plan hown hK hP 0 rfl rfl 7 (by decide) hL40 (fun _ h9 => h9) rfl d_Plan_addToTops_54 ?_
    refine lv_iload_n hx hb d_Plan_addToTops_57 rfl (lv_at hl 3 rfl) ?_
    obtain ⟨hi_8, hf⟩ := q_ck hf
    refine va_iast hx hb hK hP hD hS 2 0 rfl rfl hi_8 d_Plan_addToTops_58 (fun H locs hP hD hS => ?_)
    replace hP : va_P D vwCl [(ad 18, .inr (5, [.ref (ad 19), .ref (ad 20), .ref (ad 21), .ref (ad 22), .ref (ad 23), .ref (ad 24), .int v_plan_count, .int v_plan_topCount, .int v_plan_itemSet, .long v_plan_wholeWorth, .long v_plan_wholeCents])), (ad 22, .inl (ki 0, n_ptb, .inl (upd v_ptb (Int32.toNatClampNeg v_plan_topCount) p1))), (ad 23, .inl (ki 0, n_pts, .inl (upd v_pts (Int32.toNatClampNeg v_plan_topCount) p2)))] H := hP
    replace hD : va_D A [(ad 18, .inr (5, [.ref (ad 19), .ref (ad 20), .ref (ad 21), .ref (ad 22), .ref (ad 23), .ref (ad 24), .int v_plan_count, .int v_plan_topCount, .int v_plan_itemSet, .long v_plan_wholeWorth, .long v_plan_wholeCents])), (ad 22, .inl (ki 0, n_ptb, .inl (upd v_ptb (Int32.toNatClampNeg v_plan_topCount) p1))), (ad 23, .inl (ki 0, n_pts, .inl (upd v_pts (Int32.toNatClampNeg v_plan_topCount) p2)))] := hD
    refine lv_aload_n hx hb d_Plan_addToTops_59 rfl (lv_at hl 1 rfl) ?_
    refine lv_dup hx hb d_Plan_addToTops_60 rfl ?_
    refine va_get (D := D) (ci := 5) (v := .int v_plan_topCount) (C := R_Plan) (T := F_Plan) (N := 11) hx hb hts hn_Plan hown hK hP 0 rfl rfl 7 (by decide) hL40 (fun _ h9 => h9) rfl d_Plan_addToTops_61 ?_
    refine lv_iconst (v := 1) hx hb d_Plan_addToTops_64 (by decide) ?_
    refine lv_iadd hx hb d_Plan_addToTops_65 ?_
    refine va_put (D := D) (ci := 5) (v := .int (v_plan_topCount + 1)) (ty := .int) (C := R_Plan) (T := F_Plan) (N := 11) hx hb hts hn_Plan t_Plan t_Plan_ok n_Plan hown hK hP hD hS 0 rfl rfl 7 (by decide) hL40 (fun _ h9 => h9) rfl (by decide +kernel) rfl rfl (Nat.le_of_ble_eq_true rfl) d_Plan_addToTops_66 (fun H locs hP hD hS => ?_)
    replace hP : va_P D vwCl [(ad 18, .inr (5, [.ref (ad 19), .ref (ad 20), .ref (ad 21), .ref (ad 22), .ref (ad 23), .ref (ad 24), .int v_plan_count, .int (v_plan_topCount + 1), .int v_plan_itemSet, .long v_plan_wholeWorth, .long v_plan_wholeCents])), (ad 22, .inl (ki 0, n_ptb, .inl (upd v_ptb (Int32.toNatClampNeg v_plan_topCount) p1))), (ad 23, .inl (ki 0, n_pts, .inl (upd v_pts (Int32.toNatClampNeg v_plan_topCount) p2)))] H := hP
    replace hD : va_D A [(ad 18, .inr (5, [.ref (ad 19), .ref (ad 20), .ref (ad 21), .ref (ad 22), .ref (ad 23), .ref (ad 24), .int v_plan_count, .int (v_plan_topCount + 1), .int v_plan_itemSet, .long v_plan_wholeWorth, .long v_plan_wholeCents])), (ad 22, .inl (ki 0, n_ptb, .inl (upd v_ptb (Int32.toNatClampNeg v_plan_topCount) p1))), (ad 23, .inl (ki 0, n_pts, .inl (upd v_pts (Int32.toNatClampNeg v_plan_topCount) p2)))] := hD
    cases hf
    exact W.vret hx hb hr (fun t ht hW => ⟨rfl, by rw [ht]; exact hP, hS.F ht⟩) hS.2.2 d_Plan_addToTops_69
  replace hf := q_it hf c_6
  refine lv_aload_n hx hb d_Plan_addToTops_28 rfl (lv_at hl 1 rfl) ?_
  refine va_get (D := D) (ci := 5) (v := .ref (ad 23)) (C := R_Plan) (T := F_Plan) (N := 11) hx hb hts hn_Plan hown hK hP 0 rfl rfl 4 (by decide) hL24 (fun _ h9 => h9) rfl d_Plan_addToTops_29 ?_
  refine lv_iload_n hx hb d_Plan_addToTops_32 rfl (lv_at hl 0 rfl) ?_
  refine lv_dup2_11 hx hb d_Plan_addToTops_33 rfl rfl ?_
  obtain ⟨hi_9, hf⟩ := q_ck hf
  refine va_iald hx hb hK hP 2 0 rfl rfl hi_9 d_Plan_addToTops_34 ?_
  refine lv_iload_n hx hb d_Plan_addToTops_35 rfl (lv_at hl 3 rfl) ?_
  refine lv_iadd hx hb d_Plan_addToTops_36 ?_
  obtain ⟨hi_10, hf⟩ := q_ck hf
  refine va_iast hx hb hK hP hD hS 2 0 rfl rfl hi_10 d_Plan_addToTops_37 (fun H locs hP hD hS => ?_)
  replace hP : va_P D vwCl [(ad 18, .inr (5, [.ref (ad 19), .ref (ad 20), .ref (ad 21), .ref (ad 22), .ref (ad 23), .ref (ad 24), .int v_plan_count, .int v_plan_topCount, .int v_plan_itemSet, .long v_plan_wholeWorth, .long v_plan_wholeCents])), (ad 22, .inl (ki 0, n_ptb, .inl v_ptb)), (ad 23, .inl (ki 0, n_pts, .inl (upd v_pts (Int32.toNatClampNeg (v_plan_topCount - 1)) ((v_pts (Int32.toNatClampNeg (v_plan_topCount - 1))) + p2))))] H := hP
  replace hD : va_D A [(ad 18, .inr (5, [.ref (ad 19), .ref (ad 20), .ref (ad 21), .ref (ad 22), .ref (ad 23), .ref (ad 24), .int v_plan_count, .int v_plan_topCount, .int v_plan_itemSet, .long v_plan_wholeWorth, .long v_plan_wholeCents])), (ad 22, .inl (ki 0, n_ptb, .inl v_ptb)), (ad 23, .inl (ki 0, n_pts, .inl (upd v_pts (Int32.toNatClampNeg (v_plan_topCount - 1)) ((v_pts (Int32.toNatClampNeg (v_plan_topCount - 1))) + p2))))] := hD
  cases hf
  exact W.vret hx hb hr (fun t ht hW => ⟨rfl, by rw [ht]; exact hP, hS.F ht⟩) hS.2.2 d_Plan_addToTops_38
def f_Plan_add (N : Nat) (n_ppi : Nat) (n_ppb : Nat) (n_pps : Nat) (n_ptb : Nat) (n_pts : Nat) (n_pbo : Nat) (v_plan_count : Int32) (v_plan_topCount : Int32) (v_plan_itemSet : Int32) (v_plan_wholeWorth : Int64) (v_plan_wholeCents : Int64) (v_ppi : Nat → Int32) (v_ppb : Nat → Int32) (v_pps : Nat → Int32) (v_ptb : Nat → Int32) (v_pts : Nat → Int32) (v_pbo : Nat → Int32) (p1 : Int32) (p2 : Int32) (p3 : Int32) : Option (Int32 × Int32 × Int32 × (Nat → Int32) × (Nat → Int32) × (Nat → Int32) × (Nat → Int32) × (Nat → Int32) × (Nat → Int32)) := (if v_plan_count < (40 : Int32) then (if v_plan_count < 0 ∨ n_ppi ≤ Int32.toNatClampNeg v_plan_count then none else (if v_plan_count < 0 ∨ n_ppb ≤ Int32.toNatClampNeg v_plan_count then none else (if v_plan_count < 0 ∨ n_pps ≤ Int32.toNatClampNeg v_plan_count then none else (if p1 = ((-1) : Int32) then (Option.bind (f_Plan_addToTops N n_ptb n_pts (v_plan_count + 1) v_plan_topCount v_plan_itemSet v_plan_wholeWorth v_plan_wholeCents v_ptb v_pts p2 p3) (fun o_6 => match o_6 with | (v_plan_topCount_6, v_ptb_6, v_pts_6) => (some ((v_plan_count + 1), v_plan_topCount_6, v_plan_itemSet, (upd v_ppi (Int32.toNatClampNeg v_plan_count) p1), (upd v_ppb (Int32.toNatClampNeg v_plan_count) p2), (upd v_pps (Int32.toNatClampNeg v_plan_count) p3), v_ptb_6, v_pts_6, v_pbo)))) else (if p1 < 0 ∨ n_pbo ≤ Int32.toNatClampNeg p1 then none else (Option.bind (f_Plan_addToTops N n_ptb n_pts (v_plan_count + 1) v_plan_topCount (v_plan_itemSet ||| (1 <<< (p1 &&& 31))) v_plan_wholeWorth v_plan_wholeCents v_ptb v_pts p2 p3) (fun o_8 => match o_8 with | (v_plan_topCount_8, v_ptb_8, v_pts_8) => (some ((v_plan_count + 1), v_plan_topCount_8, (v_plan_itemSet ||| (1 <<< (p1 &&& 31))), (upd v_ppi (Int32.toNatClampNeg v_plan_count) p1), (upd v_ppb (Int32.toNatClampNeg v_plan_count) p2), (upd v_pps (Int32.toNatClampNeg v_plan_count) p3), v_ptb_8, v_pts_8, (upd v_pbo (Int32.toNatClampNeg p1) p2)))))))))) else (some (v_plan_count, v_plan_topCount, v_plan_itemSet, v_ppi, v_ppb, v_pps, v_ptb, v_pts, v_pbo)))
set_option maxRecDepth 100000 in
set_option maxHeartbeats 4000000 in
theorem c_Plan_add (l : Launch) (D : va_G) (ad : Nat → Nat) (ki : Nat → ClassId) (n_ppi : Nat) (n_ppb : Nat) (n_pps : Nat) (n_ptb : Nat) (n_pts : Nat) (n_pbo : Nat) (v_plan_count : Int32) (v_plan_topCount : Int32) (v_plan_itemSet : Int32) (v_plan_wholeWorth : Int64) (v_plan_wholeCents : Int64) (v_ppi : Nat → Int32) (v_ppb : Nat → Int32) (v_pps : Nat → Int32) (v_ptb : Nat → Int32) (v_pts : Nat → Int32) (v_pbo : Nat → Int32) (p1 : Int32) (p2 : Int32) (p3 : Int32) (N : Nat) (sz : Nat) (ov_plan_count : Int32) (ov_plan_topCount : Int32) (ov_plan_itemSet : Int32) (ov_ppi : Nat → Int32) (ov_ppb : Nat → Int32) (ov_pps : Nat → Int32) (ov_ptb : Nat → Int32) (ov_pts : Nat → Int32) (ov_pbo : Nat → Int32) (hf : f_Plan_add N n_ppi n_ppb n_pps n_ptb n_pts n_pbo v_plan_count v_plan_topCount v_plan_itemSet v_plan_wholeWorth v_plan_wholeCents v_ppi v_ppb v_pps v_ptb v_pts v_pbo p1 p2 p3 = some (ov_plan_count, ov_plan_topCount, ov_plan_itemSet, ov_ppi, ov_ppb, ov_pps, ov_ptb, ov_pts, ov_pbo)) : Met l y_Plan_add w_Plan_add { frames := 1, cells := 0, slots := 0, locals := 23 } (q_PcM [.ref (ad 18), .int p1, .int p2, .int p3] D vwCl [(ad 18, .inr (5, [.ref (ad 19), .ref (ad 20), .ref (ad 21), .ref (ad 22), .ref (ad 23), .ref (ad 24), .int v_plan_count, .int v_plan_topCount, .int v_plan_itemSet, .long v_plan_wholeWorth, .long v_plan_wholeCents])), (ad 19, .inl (ki 0, n_ppi, .inl v_ppi)), (ad 20, .inl (ki 0, n_ppb, .inl v_ppb)), (ad 21, .inl (ki 0, n_pps, .inl v_pps)), (ad 22, .inl (ki 0, n_ptb, .inl v_ptb)), (ad 23, .inl (ki 0, n_pts, .inl v_pts)), (ad 24, .inl (ki 0, n_pbo, .inl v_pbo))] (TYS ki) sz) (q_Qm (none) D vwCl [(ad 18, .inr (5, [.ref (ad 19), .ref (ad 20), .ref (ad 21), .ref (ad 22), .ref (ad 23), .ref (ad 24), .int ov_plan_count, .int ov_plan_topCount, .int ov_plan_itemSet, .long v_plan_wholeWorth, .long v_plan_wholeCents])), (ad 19, .inl (ki 0, n_ppi, .inl ov_ppi)), (ad 20, .inl (ki 0, n_ppb, .inl ov_ppb)), (ad 21, .inl (ki 0, n_pps, .inl ov_pps)), (ad 22, .inl (ki 0, n_ptb, .inl ov_ptb)), (ad 23, .inl (ki 0, n_pts, .inl ov_pts)), (ad 24, .inl (ki 0, n_pbo, .inl ov_pbo))] (va_A [(ad 18, .inr (5, [.ref (ad 19), .ref (ad 20), .ref (ad 21), .ref (ad 22), .ref (ad 23), .ref (ad 24), .int v_plan_count, .int v_plan_topCount, .int v_plan_itemSet, .long v_plan_wholeWorth, .long v_plan_wholeCents])), (ad 19, .inl (ki 0, n_ppi, .inl v_ppi)), (ad 20, .inl (ki 0, n_ppb, .inl v_ppb)), (ad 21, .inl (ki 0, n_pps, .inl v_pps)), (ad 22, .inl (ki 0, n_ptb, .inl v_ptb)), (ad 23, .inl (ki 0, n_pts, .inl v_pts)), (ad 24, .inl (ki 0, n_pbo, .inl v_pbo))] sz)) 0 0 (va_A [(ad 18, .inr (5, [.ref (ad 19), .ref (ad 20), .ref (ad 21), .ref (ad 22), .ref (ad 23), .ref (ad 24), .int v_plan_count, .int v_plan_topCount, .int v_plan_itemSet, .long v_plan_wholeWorth, .long v_plan_wholeCents])), (ad 19, .inl (ki 0, n_ppi, .inl v_ppi)), (ad 20, .inl (ki 0, n_ppb, .inl v_ppb)), (ad 21, .inl (ki 0, n_pps, .inl v_pps)), (ad 22, .inl (ki 0, n_ptb, .inl v_ptb)), (ad 23, .inl (ki 0, n_pts, .inl v_pts)), (ad 24, .inl (ki 0, n_pbo, .inl v_pbo))] sz) := by
  refine Met.ofW (cc := b_Plan_add) (maxL := 4) (ret := none) (by decide) rfl ?_
  intro p e s m args below meth c s₁ B hml hv
  obtain ⟨rfl, hsz, hP, hK, hD0, hE⟩ := hv
  have hx := B.exec
  have hb := B.bytes
  have hr := B.returns
  have hts := atoms_spec (ws := w_Plan_add) B.pre
  have hown : s.vm.findClass R_Plan = some m.cls := findClass_of_methodNamed B.named
  have hlocks := B.notSynchronized
  have hn_Plan : ∀ w ∈ u_ws R_Plan F_Plan 11, w ∈ w_Plan_add := (fun w h => List.mem_cons_of_mem _ (i_Plan w h))
  have hL9 := hts (.fieldLink R_Plan 9 "RoomFills$Plan" "pieceItem" "[I") (List.mem_cons_of_mem _ m_218)
  have hL15 := hts (.fieldLink R_Plan 15 "RoomFills$Plan" "pieceBegin" "[I") (List.mem_cons_of_mem _ m_220)
  have hL18 := hts (.fieldLink R_Plan 18 "RoomFills$Plan" "pieceSteps" "[I") (List.mem_cons_of_mem _ m_222)
  have hL27 := hts (.fieldLink R_Plan 27 "RoomFills$Plan" "beginOf" "[I") (List.mem_cons_of_mem _ m_228)
  have hL36 := hts (.fieldLink R_Plan 36 "RoomFills$Plan" "count" "I") (List.mem_cons_of_mem _ m_230)
  have hL43 := hts (.fieldLink R_Plan 43 "RoomFills$Plan" "itemSet" "I") (List.mem_cons_of_mem _ m_234)
  subst hsz
  have hD := hD0.self (sz := s.heap.size)
  generalize hAe : va_A [(ad 18, .inr (5, [.ref (ad 19), .ref (ad 20), .ref (ad 21), .ref (ad 22), .ref (ad 23), .ref (ad 24), .int v_plan_count, .int v_plan_topCount, .int v_plan_itemSet, .long v_plan_wholeWorth, .long v_plan_wholeCents])), (ad 19, .inl (ki 0, n_ppi, .inl v_ppi)), (ad 20, .inl (ki 0, n_ppb, .inl v_ppb)), (ad 21, .inl (ki 0, n_pps, .inl v_pps)), (ad 22, .inl (ki 0, n_ptb, .inl v_ptb)), (ad 23, .inl (ki 0, n_pts, .inl v_pts)), (ad 24, .inl (ki 0, n_pbo, .inl v_pbo))] s.heap.size = A at hD ⊢
  have hA : ∀ q : Nat, s.heap.size ≤ q → A q := fun q h => by rw [← hAe]; exact Or.inr h
  have hS : va_S A s.heap s.heap [] := va_S.rf
  replace hP : va_P D vwCl [(ad 18, .inr (5, [.ref (ad 19), .ref (ad 20), .ref (ad 21), .ref (ad 22), .ref (ad 23), .ref (ad 24), .int v_plan_count, .int v_plan_topCount, .int v_plan_itemSet, .long v_plan_wholeWorth, .long v_plan_wholeCents])), (ad 19, .inl (ki 0, n_ppi, .inl v_ppi)), (ad 20, .inl (ki 0, n_ppb, .inl v_ppb)), (ad 21, .inl (ki 0, n_pps, .inl v_pps)), (ad 22, .inl (ki 0, n_ptb, .inl v_ptb)), (ad 23, .inl (ki 0, n_pts, .inl v_pts)), (ad 24, .inl (ki 0, n_pbo, .inl v_pbo))] s.heap := hP
  have hl := lv_entry ([.ref (ad 18), .int p1, .int p2, .int p3]) (n := 4) (Nat.le_of_ble_eq_true rfl)
  rw [lg_entry_eq]
  generalize (lg_sl ([.ref (ad 18), .int p1, .int p2, .int p3]) ++ List.replicate (4 - (lg_sl ([.ref (ad 18), .int p1, .int p2, .int p3])).length) Slot.unset).toArray = ls at hl ⊢
  replace hl : lv_has ls 4 [(0, .ref (ad 18)), (1, .int p1), (2, .int p2), (3, .int p3)] := hl
  unfold f_Plan_add at hf
  refine lv_aload_n hx hb d_Plan_add_0 rfl (lv_at hl 0 rfl) ?_
  refine va_get (D := D) (ci := 5) (v := .int v_plan_count) (C := R_Plan) (T := F_Plan) (N := 11) hx hb hts hn_Plan hown hK hP 0 rfl rfl 6 (by decide) hL36 (fun _ h9 => h9) rfl d_Plan_add_1 ?_
  refine lv_bipush (v := 40) hx hb d_Plan_add_4 (by decide) ?_
  refine lv_icmp_lt (tgt := 10) hx hb d_Plan_add_6 (by decide) (fun c_1 => ?_) (fun c_1 => ?_)
  · replace hf := q_it hf c_1
    refine lv_aload_n hx hb d_Plan_add_10 rfl (lv_at hl 0 rfl) ?_
    refine va_get (D := D) (ci := 5) (v := .ref (ad 19)) (C := R_Plan) (T := F_Plan) (N := 11) hx hb hts hn_Plan hown hK hP 0 rfl rfl 0 (by decide) hL9 (fun _ h9 => h9) rfl d_Plan_add_11 ?_
    refine lv_aload_n hx hb d_Plan_add_14 rfl (lv_at hl 0 rfl) ?_
    refine va_get (D := D) (ci := 5) (v := .int v_plan_count) (C := R_Plan) (T := F_Plan) (N := 11) hx hb hts hn_Plan hown hK hP 0 rfl rfl 6 (by decide) hL36 (fun _ h9 => h9) rfl d_Plan_add_15 ?_
    refine lv_iload_n hx hb d_Plan_add_18 rfl (lv_at hl 1 rfl) ?_
    obtain ⟨hi_2, hf⟩ := q_ck hf
    refine va_iast hx hb hK hP hD hS 1 0 rfl rfl hi_2 d_Plan_add_19 (fun H locs hP hD hS => ?_)
    replace hP : va_P D vwCl [(ad 18, .inr (5, [.ref (ad 19), .ref (ad 20), .ref (ad 21), .ref (ad 22), .ref (ad 23), .ref (ad 24), .int v_plan_count, .int v_plan_topCount, .int v_plan_itemSet, .long v_plan_wholeWorth, .long v_plan_wholeCents])), (ad 19, .inl (ki 0, n_ppi, .inl (upd v_ppi (Int32.toNatClampNeg v_plan_count) p1))), (ad 20, .inl (ki 0, n_ppb, .inl v_ppb)), (ad 21, .inl (ki 0, n_pps, .inl v_pps)), (ad 22, .inl (ki 0, n_ptb, .inl v_ptb)), (ad 23, .inl (ki 0, n_pts, .inl v_pts)), (ad 24, .inl (ki 0, n_pbo, .inl v_pbo))] H := hP
    replace hD : va_D A [(ad 18, .inr (5, [.ref (ad 19), .ref (ad 20), .ref (ad 21), .ref (ad 22), .ref (ad 23), .ref (ad 24), .int v_plan_count, .int v_plan_topCount, .int v_plan_itemSet, .long v_plan_wholeWorth, .long v_plan_wholeCents])), (ad 19, .inl (ki 0, n_ppi, .inl (upd v_ppi (Int32.toNatClampNeg v_plan_count) p1))), (ad 20, .inl (ki 0, n_ppb, .inl v_ppb)), (ad 21, .inl (ki 0, n_pps, .inl v_pps)), (ad 22, .inl (ki 0, n_ptb, .inl v_ptb)), (ad 23, .inl (ki 0, n_pts, .inl v_pts)), (ad 24, .inl (ki 0, n_pbo, .inl v_pbo))] := hD
    refine lv_aload_n hx hb d_Plan_add_20 rfl (lv_at hl 0 rfl) ?_
    refine va_get (D := D) (ci := 5) (v := .ref (ad 20)) (C := R_Plan) (T := F_Plan) (N := 11) hx hb hts hn_Plan hown hK hP 0 rfl rfl 1 (by decide) hL15 (fun _ h9 => h9) rfl d_Plan_add_21 ?_
    refine lv_aload_n hx hb d_Plan_add_24 rfl (lv_at hl 0 rfl) ?_
    refine va_get (D := D) (ci := 5) (v := .int v_plan_count) (C := R_Plan) (T := F_Plan) (N := 11) hx hb hts hn_Plan hown hK hP 0 rfl rfl 6 (by decide) hL36 (fun _ h9 => h9) rfl d_Plan_add_25 ?_
    refine lv_iload_n hx hb d_Plan_add_28 rfl (lv_at hl 2 rfl) ?_
    obtain ⟨hi_3, hf⟩ := q_ck hf
    refine va_iast hx hb hK hP hD hS 2 0 rfl rfl hi_3 d_Plan_add_29 (fun H locs hP hD hS => ?_)
    replace hP : va_P D vwCl [(ad 18, .inr (5, [.ref (ad 19), .ref (ad 20), .ref (ad 21), .ref (ad 22), .ref (ad 23), .ref (ad 24), .int v_plan_count, .int v_plan_topCount, .int v_plan_itemSet, .long v_plan_wholeWorth, .long v_plan_wholeCents])), (ad 19, .inl (ki 0, n_ppi, .inl (upd v_ppi (Int32.toNatClampNeg v_plan_count) p1))), (ad 20, .inl (ki 0, n_ppb, .inl (upd v_ppb (Int32.toNatClampNeg v_plan_count) p2))), (ad 21, .inl (ki 0, n_pps, .inl v_pps)), (ad 22, .inl (ki 0, n_ptb, .inl v_ptb)), (ad 23, .inl (ki 0, n_pts, .inl v_pts)), (ad 24, .inl (ki 0, n_pbo, .inl v_pbo))] H := hP
    replace hD : va_D A [(ad 18, .inr (5, [.ref (ad 19), .ref (ad 20), .ref (ad 21), .ref (ad 22), .ref (ad 23), .ref (ad 24), .int v_plan_count, .int v_plan_topCount, .int v_plan_itemSet, .long v_plan_wholeWorth, .long v_plan_wholeCents])), (ad 19, .inl (ki 0, n_ppi, .inl (upd v_ppi (Int32.toNatClampNeg v_plan_count) p1))), (ad 20, .inl (ki 0, n_ppb, .inl (upd v_ppb (Int32.toNatClampNeg v_plan_count) p2))), (ad 21, .inl (ki 0, n_pps, .inl v_pps)), (ad 22, .inl (ki 0, n_ptb, .inl v_ptb)), (ad 23, .inl (ki 0, n_pts, .inl v_pts)), (ad 24, .inl (ki 0, n_pbo, .inl v_pbo))] := hD
    refine lv_aload_n hx hb d_Plan_add_30 rfl (lv_at hl 0 rfl) ?_
    refine va_get (D := D) (ci := 5) (v := .ref (ad 21)) (C := R_Plan) (T := F_Plan) (N := 11) hx hb hts hn_Plan hown hK hP 0 rfl rfl 2 (by decide) hL18 (fun _ h9 => h9) rfl d_Plan_add_31 ?_
    refine lv_aload_n hx hb d_Plan_add_34 rfl (lv_at hl 0 rfl) ?_
    refine va_get (D := D) (ci := 5) (v := .int v_plan_count) (C := R_Plan) (T := F_Plan) (N := 11) hx hb hts hn_Plan hown hK hP 0 rfl rfl 6 (by decide) hL36 (fun _ h9 => h9) rfl d_Plan_add_35 ?_
    refine lv_iload_n hx hb d_Plan_add_38 rfl (lv_at hl 3 rfl) ?_
    obtain ⟨hi_4, hf⟩ := q_ck hf
    refine va_iast hx hb hK hP hD hS 3 0 rfl rfl hi_4 d_Plan_add_39 (fun H locs hP hD hS => ?_)
    replace hP : va_P D vwCl [(ad 18, .inr (5, [.ref (ad 19), .ref (ad 20), .ref (ad 21), .ref (ad 22), .ref (ad 23), .ref (ad 24), .int v_plan_count, .int v_plan_topCount, .int v_plan_itemSet, .long v_plan_wholeWorth, .long v_plan_wholeCents])), (ad 19, .inl (ki 0, n_ppi, .inl (upd v_ppi (Int32.toNatClampNeg v_plan_count) p1))), (ad 20, .inl (ki 0, n_ppb, .inl (upd v_ppb (Int32.toNatClampNeg v_plan_count) p2))), (ad 21, .inl (ki 0, n_pps, .inl (upd v_pps (Int32.toNatClampNeg v_plan_count) p3))), (ad 22, .inl (ki 0, n_ptb, .inl v_ptb)), (ad 23, .inl (ki 0, n_pts, .inl v_pts)), (ad 24, .inl (ki 0, n_pbo, .inl v_pbo))] H := hP
    replace hD : va_D A [(ad 18, .inr (5, [.ref (ad 19), .ref (ad 20), .ref (ad 21), .ref (ad 22), .ref (ad 23), .ref (ad 24), .int v_plan_count, .int v_plan_topCount, .int v_plan_itemSet, .long v_plan_wholeWorth, .long v_plan_wholeCents])), (ad 19, .inl (ki 0, n_ppi, .inl (upd v_ppi (Int32.toNatClampNeg v_plan_count) p1))), (ad 20, .inl (ki 0, n_ppb, .inl (upd v_ppb (Int32.toNatClampNeg v_plan_count) p2))), (ad 21, .inl (ki 0, n_pps, .inl (upd v_pps (Int32.toNatClampNeg v_plan_count) p3))), (ad 22, .inl (ki 0, n_ptb, .inl v_ptb)), (ad 23, .inl (ki 0, n_pts, .inl v_pts)), (ad 24, .inl (ki 0, n_pbo, .inl v_pbo))] := hD
    refine lv_aload_n hx hb d_Plan_add_40 rfl (lv_at hl 0 rfl) ?_
    refine lv_dup hx hb d_Plan_add_41 rfl ?_
    refine va_get (D := D) (ci := 5) (v := .int v_plan_count) (C := R_Plan) (T := F_Plan) (N := 11) hx hb hts hn_Plan hown hK hP 0 rfl rfl 6 (by decide) hL36 (fun _ h9 => h9) rfl d_Plan_add_42 ?_
    refine lv_iconst (v := 1) hx hb d_Plan_add_45 (by decide) ?_
    refine lv_iadd hx hb d_Plan_add_46 ?_
    refine va_put (D := D) (ci := 5) (v := .int (v_plan_count + 1)) (ty := .int) (C := R_Plan) (T := F_Plan) (N := 11) hx hb hts hn_Plan t_Plan t_Plan_ok n_Plan hown hK hP hD hS 0 rfl rfl 6 (by decide) hL36 (fun _ h9 => h9) rfl (by decide +kernel) rfl rfl (Nat.le_of_ble_eq_true rfl) d_Plan_add_47 (fun H locs hP hD hS => ?_)
    replace hP : va_P D vwCl [(ad 18, .inr (5, [.ref (ad 19), .ref (ad 20), .ref (ad 21), .ref (ad 22), .ref (ad 23), .ref (ad 24), .int (v_plan_count + 1), .int v_plan_topCount, .int v_plan_itemSet, .long v_plan_wholeWorth, .long v_plan_wholeCents])), (ad 19, .inl (ki 0, n_ppi, .inl (upd v_ppi (Int32.toNatClampNeg v_plan_count) p1))), (ad 20, .inl (ki 0, n_ppb, .inl (upd v_ppb (Int32.toNatClampNeg v_plan_count) p2))), (ad 21, .inl (ki 0, n_pps, .inl (upd v_pps (Int32.toNatClampNeg v_plan_count) p3))), (ad 22, .inl (ki 0, n_ptb, .inl v_ptb)), (ad 23, .inl (ki 0, n_pts, .inl v_pts)), (ad 24, .inl (ki 0, n_pbo, .inl v_pbo))] H := hP
    replace hD : va_D A [(ad 18, .inr (5, [.ref (ad 19), .ref (ad 20), .ref (ad 21), .ref (ad 22), .ref (ad 23), .ref (ad 24), .int (v_plan_count + 1), .int v_plan_topCount, .int v_plan_itemSet, .long v_plan_wholeWorth, .long v_plan_wholeCents])), (ad 19, .inl (ki 0, n_ppi, .inl (upd v_ppi (Int32.toNatClampNeg v_plan_count) p1))), (ad 20, .inl (ki 0, n_ppb, .inl (upd v_ppb (Int32.toNatClampNeg v_plan_count) p2))), (ad 21, .inl (ki 0, n_pps, .inl (upd v_pps (Int32.toNatClampNeg v_plan_count) p3))), (ad 22, .inl (ki 0, n_ptb, .inl v_ptb)), (ad 23, .inl (ki 0, n_pts, .inl v_pts)), (ad 24, .inl (ki 0, n_pbo, .inl v_pbo))] := hD
    refine lv_iload_n hx hb d_Plan_add_50 rfl (lv_at hl 1 rfl) ?_
    refine lv_iconst (v := (-1)) hx hb d_Plan_add_51 (by decide) ?_
    refine lv_icmp_eq (tgt := 74) hx hb d_Plan_add_52 (by decide) (fun c_5 => ?_) (fun c_5 => ?_)
    · replace hf := q_it hf c_5
      refine lv_aload_n hx hb d_Plan_add_74 rfl (lv_at hl 0 rfl) ?_
      refine lv_iload_n hx hb d_Plan_add_75 rfl (lv_at hl 2 rfl) ?_
      refine lv_iload_n hx hb d_Plan_add_76 rfl (lv_at hl 3 rfl) ?_
      obtain ⟨⟨v_plan_topCount_6, v_ptb_6, v_pts_6⟩, hc_6, hf⟩ := q_mb hf
      have hC_6 : ([0, 4, 5] : List Nat).map (fun i => ([(ad 18, .inr (5, [.ref (ad 19), .ref (ad 20), .ref (ad 21), .ref (ad 22), .ref (ad 23), .ref (ad 24), .int (v_plan_count + 1), .int v_plan_topCount, .int v_plan_itemSet, .long v_plan_wholeWorth, .long v_plan_wholeCents])), (ad 19, .inl (ki 0, n_ppi, .inl (upd v_ppi (Int32.toNatClampNeg v_plan_count) p1))), (ad 20, .inl (ki 0, n_ppb, .inl (upd v_ppb (Int32.toNatClampNeg v_plan_count) p2))), (ad 21, .inl (ki 0, n_pps, .inl (upd v_pps (Int32.toNatClampNeg v_plan_count) p3))), (ad 22, .inl (ki 0, n_ptb, .inl v_ptb)), (ad 23, .inl (ki 0, n_pts, .inl v_pts)), (ad 24, .inl (ki 0, n_pbo, .inl v_pbo))] : va_W)[i]?) = ([(ad 18, .inr (5, [.ref (ad 19), .ref (ad 20), .ref (ad 21), .ref (ad 22), .ref (ad 23), .ref (ad 24), .int (v_plan_count + 1), .int v_plan_topCount, .int v_plan_itemSet, .long v_plan_wholeWorth, .long v_plan_wholeCents])), (ad 22, .inl (ki 0, n_ptb, .inl v_ptb)), (ad 23, .inl (ki 0, n_pts, .inl v_pts))] : va_W).map some := rfl
      refine q_mcall3 (w1 := [(ad 18, .inr (5, [.ref (ad 19), .ref (ad 20), .ref (ad 21), .ref (ad 22), .ref (ad 23), .ref (ad 24), .int (v_plan_count + 1), .int v_plan_topCount_6, .int v_plan_itemSet, .long v_plan_wholeWorth, .long v_plan_wholeCents])), (ad 22, .inl (ki 0, n_ptb, .inl v_ptb_6)), (ad 23, .inl (ki 0, n_pts, .inl v_pts_6))]) (ws' := [(ad 18, .inr (5, [.ref (ad 19), .ref (ad 20), .ref (ad 21), .ref (ad 22), .ref (ad 23), .ref (ad 24), .int (v_plan_count + 1), .int v_plan_topCount_6, .int v_plan_itemSet, .long v_plan_wholeWorth, .long v_plan_wholeCents])), (ad 19, .inl (ki 0, n_ppi, .inl (upd v_ppi (Int32.toNatClampNeg v_plan_count) p1))), (ad 20, .inl (ki 0, n_ppb, .inl (upd v_ppb (Int32.toNatClampNeg v_plan_count) p2))), (ad 21, .inl (ki 0, n_pps, .inl (upd v_pps (Int32.toNatClampNeg v_plan_count) p3))), (ad 22, .inl (ki 0, n_ptb, .inl v_ptb_6)), (ad 23, .inl (ki 0, n_pts, .inl v_pts_6)), (ad 24, .inl (ki 0, n_pbo, .inl v_pbo))]) (wc := [(ad 18, .inr (5, [.ref (ad 19), .ref (ad 20), .ref (ad 21), .ref (ad 22), .ref (ad 23), .ref (ad 24), .int (v_plan_count + 1), .int v_plan_topCount, .int v_plan_itemSet, .long v_plan_wholeWorth, .long v_plan_wholeCents])), (ad 22, .inl (ki 0, n_ptb, .inl v_ptb)), (ad 23, .inl (ki 0, n_pts, .inl v_pts))]) (va_runV (As := [.int p2, .int p3]) (rest := []) ⟨hx, hb, hml, hown, hts⟩ (c_Plan_addToTops l D ad ki n_ptb n_pts (v_plan_count + 1) v_plan_topCount v_plan_itemSet v_plan_wholeWorth v_plan_wholeCents v_ptb v_pts p2 p3 N _ v_plan_topCount_6 v_ptb_6 v_pts_6 hc_6) (cwV 2 hts (q_goodV ⟨m_472, m_474, m_11, m_61⟩ m_475) rfl rfl rfl (by decide +kernel) ⟨Nat.le_of_ble_eq_true rfl, Nat.le_of_ble_eq_true rfl⟩) (q_preVM3 hE hK hP hD (by decide +kernel) hC_6 0 5 rfl rfl) rfl rfl hl.1 rfl (lv_room (Nat.le_of_ble_eq_true rfl)) d_Plan_add_77 ⟨Nat.le_of_ble_eq_true rfl, Nat.le_of_ble_eq_true rfl⟩) hP hD hS hA hC_6 [ad 18, ad 19, ad 20, ad 21, ad 22, ad 23, ad 24] rfl rfl (fun H1 h1 hk => (q_c (h1 0 _ rfl) (q_c (hk 1 _ rfl (by decide)) (q_c (hk 2 _ rfl (by decide)) (q_c (hk 3 _ rfl (by decide)) (q_c (h1 1 _ rfl) (q_c (h1 2 _ rfl) (q_c (hk 6 _ rfl (by decide)) q_n)))))))) rfl (fun H locs hP hD hS => ?_)
      cases hf
      exact W.vret hx hb hr (fun t ht hW => ⟨rfl, by rw [ht]; exact hP, hS.F ht⟩) hS.2.2 d_Plan_add_80
    replace hf := q_ie hf c_5
    refine lv_aload_n hx hb d_Plan_add_55 rfl (lv_at hl 0 rfl) ?_
    refine va_get (D := D) (ci := 5) (v := .ref (ad 24)) (C := R_Plan) (T := F_Plan) (N := 11) hx hb hts hn_Plan hown hK hP 0 rfl rfl 5 (by decide) hL27 (fun _ h9 => h9) rfl d_Plan_add_56 ?_
    refine lv_iload_n hx hb d_Plan_add_59 rfl (lv_at hl 1 rfl) ?_
    refine lv_iload_n hx hb d_Plan_add_60 rfl (lv_at hl 2 rfl) ?_
    obtain ⟨hi_7, hf⟩ := q_ck hf
    refine va_iast hx hb hK hP hD hS 6 0 rfl rfl hi_7 d_Plan_add_61 (fun H locs hP hD hS => ?_)
    replace hP : va_P D vwCl [(ad 18, .inr (5, [.ref (ad 19), .ref (ad 20), .ref (ad 21), .ref (ad 22), .ref (ad 23), .ref (ad 24), .int (v_plan_count + 1), .int v_plan_topCount, .int v_plan_itemSet, .long v_plan_wholeWorth, .long v_plan_wholeCents])), (ad 19, .inl (ki 0, n_ppi, .inl (upd v_ppi (Int32.toNatClampNeg v_plan_count) p1))), (ad 20, .inl (ki 0, n_ppb, .inl (upd v_ppb (Int32.toNatClampNeg v_plan_count) p2))), (ad 21, .inl (ki 0, n_pps, .inl (upd v_pps (Int32.toNatClampNeg v_plan_count) p3))), (ad 22, .inl (ki 0, n_ptb, .inl v_ptb)), (ad 23, .inl (ki 0, n_pts, .inl v_pts)), (ad 24, .inl (ki 0, n_pbo, .inl (upd v_pbo (Int32.toNatClampNeg p1) p2)))] H := hP
    replace hD : va_D A [(ad 18, .inr (5, [.ref (ad 19), .ref (ad 20), .ref (ad 21), .ref (ad 22), .ref (ad 23), .ref (ad 24), .int (v_plan_count + 1), .int v_plan_topCount, .int v_plan_itemSet, .long v_plan_wholeWorth, .long v_plan_wholeCents])), (ad 19, .inl (ki 0, n_ppi, .inl (upd v_ppi (Int32.toNatClampNeg v_plan_count) p1))), (ad 20, .inl (ki 0, n_ppb, .inl (upd v_ppb (Int32.toNatClampNeg v_plan_count) p2))), (ad 21, .inl (ki 0, n_pps, .inl (upd v_pps (Int32.toNatClampNeg v_plan_count) p3))), (ad 22, .inl (ki 0, n_ptb, .inl v_ptb)), (ad 23, .inl (ki 0, n_pts, .inl v_pts)), (ad 24, .inl (ki 0, n_pbo, .inl (upd v_pbo (Int32.toNatClampNeg p1) p2)))] := hD
    refine lv_aload_n hx hb d_Plan_add_62 rfl (lv_at hl 0 rfl) ?_
    refine lv_dup hx hb d_Plan_add_63 rfl ?_
    refine va_get (D := D) (ci := 5) (v := .int v_plan_itemSet) (C := R_Plan) (T := F_Plan) (N := 11) hx hb hts hn_Plan hown hK hP 0 rfl rfl 8 (by decide) hL43 (fun _ h9 => h9) rfl d_Plan_add_64 ?_
    refine lv_iconst (v := 1) hx hb d_Plan_add_67 (by decide) ?_
    refine lv_iload_n hx hb d_Plan_add_68 rfl (lv_at hl 1 rfl) ?_
    refine lv_ishl hx hb d_Plan_add_69 ?_
    refine lv_ior hx hb d_Plan_add_70 ?_
    refine va_put (D := D) (ci := 5) (v := .int (v_plan_itemSet ||| (1 <<< (p1 &&& 31)))) (ty := .int) (C := R_Plan) (T := F_Plan) (N := 11) hx hb hts hn_Plan t_Plan t_Plan_ok n_Plan hown hK hP hD hS 0 rfl rfl 8 (by decide) hL43 (fun _ h9 => h9) rfl (by decide +kernel) rfl rfl (Nat.le_of_ble_eq_true rfl) d_Plan_add_71 (fun H locs hP hD hS => ?_)
    replace hP : va_P D vwCl [(ad 18, .inr (5, [.ref (ad 19), .ref (ad 20), .ref (ad 21), .ref (ad 22), .ref (ad 23), .ref (ad 24), .int (v_plan_count + 1), .int v_plan_topCount, .int (v_plan_itemSet ||| (1 <<< (p1 &&& 31))), .long v_plan_wholeWorth, .long v_plan_wholeCents])), (ad 19, .inl (ki 0, n_ppi, .inl (upd v_ppi (Int32.toNatClampNeg v_plan_count) p1))), (ad 20, .inl (ki 0, n_ppb, .inl (upd v_ppb (Int32.toNatClampNeg v_plan_count) p2))), (ad 21, .inl (ki 0, n_pps, .inl (upd v_pps (Int32.toNatClampNeg v_plan_count) p3))), (ad 22, .inl (ki 0, n_ptb, .inl v_ptb)), (ad 23, .inl (ki 0, n_pts, .inl v_pts)), (ad 24, .inl (ki 0, n_pbo, .inl (upd v_pbo (Int32.toNatClampNeg p1) p2)))] H := hP
    replace hD : va_D A [(ad 18, .inr (5, [.ref (ad 19), .ref (ad 20), .ref (ad 21), .ref (ad 22), .ref (ad 23), .ref (ad 24), .int (v_plan_count + 1), .int v_plan_topCount, .int (v_plan_itemSet ||| (1 <<< (p1 &&& 31))), .long v_plan_wholeWorth, .long v_plan_wholeCents])), (ad 19, .inl (ki 0, n_ppi, .inl (upd v_ppi (Int32.toNatClampNeg v_plan_count) p1))), (ad 20, .inl (ki 0, n_ppb, .inl (upd v_ppb (Int32.toNatClampNeg v_plan_count) p2))), (ad 21, .inl (ki 0, n_pps, .inl (upd v_pps (Int32.toNatClampNeg v_plan_count) p3))), (ad 22, .inl (ki 0, n_ptb, .inl v_ptb)), (ad 23, .inl (ki 0, n_pts, .inl v_pts)), (ad 24, .inl (ki 0, n_pbo, .inl (upd v_pbo (Int32.toNatClampNeg p1) p2)))] := hD
    refine lv_aload_n hx hb d_Plan_add_74 rfl (lv_at hl 0 rfl) ?_
    refine lv_iload_n hx hb d_Plan_add_75 rfl (lv_at hl 2 rfl) ?_
    refine lv_iload_n hx hb d_Plan_add_76 rfl (lv_at hl 3 rfl) ?_
    obtain ⟨⟨v_plan_topCount_8, v_ptb_8, v_pts_8⟩, hc_8, hf⟩ := q_mb hf
    have hC_8 : ([0, 4, 5] : List Nat).map (fun i => ([(ad 18, .inr (5, [.ref (ad 19), .ref (ad 20), .ref (ad 21), .ref (ad 22), .ref (ad 23), .ref (ad 24), .int (v_plan_count + 1), .int v_plan_topCount, .int (v_plan_itemSet ||| (1 <<< (p1 &&& 31))), .long v_plan_wholeWorth, .long v_plan_wholeCents])), (ad 19, .inl (ki 0, n_ppi, .inl (upd v_ppi (Int32.toNatClampNeg v_plan_count) p1))), (ad 20, .inl (ki 0, n_ppb, .inl (upd v_ppb (Int32.toNatClampNeg v_plan_count) p2))), (ad 21, .inl (ki 0, n_pps, .inl (upd v_pps (Int32.toNatClampNeg v_plan_count) p3))), (ad 22, .inl (ki 0, n_ptb, .inl v_ptb)), (ad 23, .inl (ki 0, n_pts, .inl v_pts)), (ad 24, .inl (ki 0, n_pbo, .inl (upd v_pbo (Int32.toNatClampNeg p1) p2)))] : va_W)[i]?) = ([(ad 18, .inr (5, [.ref (ad 19), .ref (ad 20), .ref (ad 21), .ref (ad 22), .ref (ad 23), .ref (ad 24), .int (v_plan_count + 1), .int v_plan_topCount, .int (v_plan_itemSet ||| (1 <<< (p1 &&& 31))), .long v_plan_wholeWorth, .long v_plan_wholeCents])), (ad 22, .inl (ki 0, n_ptb, .inl v_ptb)), (ad 23, .inl (ki 0, n_pts, .inl v_pts))] : va_W).map some := rfl
    refine q_mcall3 (w1 := [(ad 18, .inr (5, [.ref (ad 19), .ref (ad 20), .ref (ad 21), .ref (ad 22), .ref (ad 23), .ref (ad 24), .int (v_plan_count + 1), .int v_plan_topCount_8, .int (v_plan_itemSet ||| (1 <<< (p1 &&& 31))), .long v_plan_wholeWorth, .long v_plan_wholeCents])), (ad 22, .inl (ki 0, n_ptb, .inl v_ptb_8)), (ad 23, .inl (ki 0, n_pts, .inl v_pts_8))]) (ws' := [(ad 18, .inr (5, [.ref (ad 19), .ref (ad 20), .ref (ad 21), .ref (ad 22), .ref (ad 23), .ref (ad 24), .int (v_plan_count + 1), .int v_plan_topCount_8, .int (v_plan_itemSet ||| (1 <<< (p1 &&& 31))), .long v_plan_wholeWorth, .long v_plan_wholeCents])), (ad 19, .inl (ki 0, n_ppi, .inl (upd v_ppi (Int32.toNatClampNeg v_plan_count) p1))), (ad 20, .inl (ki 0, n_ppb, .inl (upd v_ppb (Int32.toNatClampNeg v_plan_count) p2))), (ad 21, .inl (ki 0, n_pps, .inl (upd v_pps (Int32.toNatClampNeg v_plan_count) p3))), (ad 22, .inl (ki 0, n_ptb, .inl v_ptb_8)), (ad 23, .inl (ki 0, n_pts, .inl v_pts_8)), (ad 24, .inl (ki 0, n_pbo, .inl (upd v_pbo (Int32.toNatClampNeg p1) p2)))]) (wc := [(ad 18, .inr (5, [.ref (ad 19), .ref (ad 20), .ref (ad 21), .ref (ad 22), .ref (ad 23), .ref (ad 24), .int (v_plan_count + 1), .int v_plan_topCount, .int (v_plan_itemSet ||| (1 <<< (p1 &&& 31))), .long v_plan_wholeWorth, .long v_plan_wholeCents])), (ad 22, .inl (ki 0, n_ptb, .inl v_ptb)), (ad 23, .inl (ki 0, n_pts, .inl v_pts))]) (va_runV (As := [.int p2, .int p3]) (rest := []) ⟨hx, hb, hml, hown, hts⟩ (c_Plan_addToTops l D ad ki n_ptb n_pts (v_plan_count + 1) v_plan_topCount (v_plan_itemSet ||| (1 <<< (p1 &&& 31))) v_plan_wholeWorth v_plan_wholeCents v_ptb v_pts p2 p3 N _ v_plan_topCount_8 v_ptb_8 v_pts_8 hc_8) (cwV 2 hts (q_goodV ⟨m_472, m_474, m_11, m_61⟩ m_475) rfl rfl rfl (by decide +kernel) ⟨Nat.le_of_ble_eq_true rfl, Nat.le_of_ble_eq_true rfl⟩) (q_preVM3 hE hK hP hD (by decide +kernel) hC_8 0 5 rfl rfl) rfl rfl hl.1 rfl (lv_room (Nat.le_of_ble_eq_true rfl)) d_Plan_add_77 ⟨Nat.le_of_ble_eq_true rfl, Nat.le_of_ble_eq_true rfl⟩) hP hD hS hA hC_8 [ad 18, ad 19, ad 20, ad 21, ad 22, ad 23, ad 24] rfl rfl (fun H1 h1 hk => (q_c (h1 0 _ rfl) (q_c (hk 1 _ rfl (by decide)) (q_c (hk 2 _ rfl (by decide)) (q_c (hk 3 _ rfl (by decide)) (q_c (h1 1 _ rfl) (q_c (h1 2 _ rfl) (q_c (hk 6 _ rfl (by decide)) q_n)))))))) rfl (fun H locs hP hD hS => ?_)
    cases hf
    exact W.vret hx hb hr (fun t ht hW => ⟨rfl, by rw [ht]; exact hP, hS.F ht⟩) hS.2.2 d_Plan_add_80
  replace hf := q_ie hf c_1
  cases hf
  exact W.vret hx hb hr (fun t ht hW => ⟨rfl, by rw [ht]; exact hP, hS.F ht⟩) hS.2.2 d_Plan_add_9
