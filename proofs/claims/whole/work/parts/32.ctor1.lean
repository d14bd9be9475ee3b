set_option maxRecDepth 100000 in
set_option maxHeartbeats 4000000 in
theorem c_Wall_init (l : Launch) (D : va_G) (h0 : Nat) (p1 : Int32) (S : Nat) (hS9 : S ≤ 40) (hp : p1 = nI S) (sz : Nat) : Met l y_Wall_init w_Wall_init { frames := 1, cells := 2, slots := 48, locals := 12 } (q_PcM [.ref h0, .int p1] D vwCl [(h0, .inr (1, [.int 0, .null, .null, .int 0]))] [] sz) (va_Qv (fun _ : Unit => True) (fun (_ : Unit) (t : State) => ∃ (q_wfree q_wpip : Nat) (c_wfree c_wpip : ClassId), va_P D vwCl [(h0, .inr (1, [.int p1, .ref q_wfree, .ref q_wpip, .int 0])), (q_wfree, .inl (c_wfree, S, .inl (fun _ => 0))), (q_wpip, .inl (c_wpip, 8, .inl (fun _ => 0)))] t.heap ∧ va_K D vwCl [(c_wfree, .boolean), (c_wpip, .int)] t ∧ va_D (va_A [(h0, .inr (1, [.int 0, .null, .null, .int 0]))] sz) [(h0, .inr (1, [.int p1, .ref q_wfree, .ref q_wpip, .int 0])), (q_wfree, .inl (c_wfree, S, .inl (fun _ => 0))), (q_wpip, .inl (c_wpip, 8, .inl (fun _ => 0)))]) (va_A [(h0, .inr (1, [.int 0, .null, .null, .int 0]))] sz)) 2 48 (va_A [(h0, .inr (1, [.int 0, .null, .null, .int 0]))] sz) := by
  refine Met.ofW (cc := b_Wall_init) (maxL := 2) (ret := none) (by decide) rfl ?_
  intro p e s m args below meth c s₁ B hml hv
  obtain ⟨rfl, hsz, hP, hK, hD0, hE⟩ := hv
  have hx := B.exec
  have hb := B.bytes
  have hr := B.returns
  have hts := atoms_spec (ws := w_Wall_init) B.pre
  have hown : s.vm.findClass R_Wall = some m.cls := findClass_of_methodNamed B.named
  have hlocks := B.notSynchronized
  have hin : meth.name = "<init>" := (name_of_methodNamed B.named B.method).1
  have hn_Wall : ∀ w ∈ u_ws R_Wall F_Wall 4, w ∈ w_Wall_init := (fun w h => List.mem_cons_of_mem _ (i_Wall w h))
  have hL9 := hts (.fieldLink R_Wall 9 "RoomFills$Wall" "steps" "I") (List.mem_cons_of_mem _ m_92)
  have hL15 := hts (.fieldLink R_Wall 15 "RoomFills$Wall" "free" "[Z") (List.mem_cons_of_mem _ m_97)
  have hL19 := hts (.fieldLink R_Wall 19 "RoomFills$Wall" "pipes" "[I") (List.mem_cons_of_mem _ m_100)
  have hL23 := hts (.fieldLink R_Wall 23 "RoomFills$Wall" "pipeCount" "I") (List.mem_cons_of_mem _ m_101)
  subst hsz
  have hD := hD0.self (sz := s.heap.size)
  generalize hAe : va_A [(h0, .inr (1, [.int 0, .null, .null, .int 0]))] s.heap.size = A at hD ⊢
  have hA : ∀ q : Nat, s.heap.size ≤ q → A q := fun q h => by rw [← hAe]; exact Or.inr h
  have hS : va_S A s.heap s.heap [] := va_S.rf
  replace hP : va_P D vwCl [(h0, .inr (1, [.int 0, .null, .null, .int 0]))] s.heap := hP
  have hl := lv_entry ([.ref h0, .int p1]) (n := 2) (Nat.le_of_ble_eq_true rfl)
  rw [lg_entry_eq]
  generalize (lg_sl ([.ref h0, .int p1]) ++ List.replicate (2 - (lg_sl ([.ref h0, .int p1])).length) Slot.unset).toArray = ls at hl ⊢
  replace hl : lv_has ls 2 [(0, .ref h0), (1, .int p1)] := hl
  refine lv_aload_n hx hb d_Wall_init_0 rfl (lv_at hl 0 rfl) ?_
  refine W.objInit hx hb hown (hts (.methodLink R_Wall 3 objectInit) (List.mem_cons_of_mem _ m_91)) (hts (.instanceMethod objectInit) (List.mem_cons_of_mem _ m_78)) (hts _ (List.mem_cons_of_mem _ m_79)) rfl (by rw [hml]; exact hl.1) rfl d_Wall_init_1 (Nat.le_of_ble_eq_true rfl) (Nat.le_of_ble_eq_true rfl) ?_
  refine W.eq (g2 := F0 m 4 ls []) rfl ?_
  refine lv_aload_n hx hb d_Wall_init_4 rfl (lv_at hl 0 rfl) ?_
  refine lv_iload_n hx hb d_Wall_init_5 rfl (lv_at hl 1 rfl) ?_
  refine va_putF (D := D) (ci := 1) (v := .int p1) (ty := .int) (C := R_Wall) (T := F_Wall) (N := 4) hx hb hts hn_Wall t_Wall t_Wall_ok n_Wall hown hK hP hD hS 0 rfl rfl 0 (by decide) hL9 (fun _ h9 => h9) rfl hin rfl (by decide +kernel) rfl rfl (Nat.le_of_ble_eq_true rfl) d_Wall_init_6 (fun H locs hP hD hS => ?_)
  replace hP : va_P D vwCl [(h0, .inr (1, [.int p1, .null, .null, .int 0]))] H := hP
  replace hD : va_D A [(h0, .inr (1, [.int p1, .null, .null, .int 0]))] := hD
  refine lv_aload_n hx hb d_Wall_init_9 rfl (lv_at hl 0 rfl) ?_
  refine lv_iload_n hx hb d_Wall_init_10 rfl (lv_at hl 1 rfl) ?_
  refine va_newa (atype := .boolean) (n := p1) (ty := .boolean) (a0 := (S, .inl (fun _ => 0))) (N' := S) hx hb (hts (.arrayClass .boolean) (List.mem_cons_of_mem _ m_111)) rfl hK hP hD hS hA (fun _ => rfl) (by rw [hp]; exact nI_pos (by omega)) (by rw [hp]; exact nI_clamp (by omega)) (show S * 1 ≤ 536870912 by omega) (Nat.le_of_ble_eq_true rfl) (Nat.le_trans (Nat.add_le_add_left hS9 _) (Nat.le_of_ble_eq_true rfl)) d_Wall_init_11 (fun q_wfree c_wfree H hK hP hD hS => ?_)
  refine W.widen (k := 1) (n := 40) (by omega) (by omega) ?_
  replace hP : va_P D vwCl [(h0, .inr (1, [.int p1, .null, .null, .int 0])), (q_wfree, .inl (c_wfree, S, .inl (fun _ => 0)))] H := hP
  replace hD : va_D A [(h0, .inr (1, [.int p1, .null, .null, .int 0])), (q_wfree, .inl (c_wfree, S, .inl (fun _ => 0)))] := hD
  replace hK : va_K D vwCl [(c_wfree, .boolean)] s := hK
  refine va_putF (D := D) (ci := 1) (v := .ref q_wfree) (ty := (.array .boolean)) (C := R_Wall) (T := F_Wall) (N := 4) hx hb hts hn_Wall t_Wall t_Wall_ok n_Wall hown hK hP hD hS 0 rfl rfl 1 (by decide) hL15 (fun _ h9 => h9) rfl hin rfl (by decide +kernel) rfl rfl (Nat.le_of_ble_eq_true rfl) d_Wall_init_13 (fun H locs hP hD hS => ?_)
  replace hP : va_P D vwCl [(h0, .inr (1, [.int p1, .ref q_wfree, .null, .int 0])), (q_wfree, .inl (c_wfree, S, .inl (fun _ => 0)))] H := hP
  replace hD : va_D A [(h0, .inr (1, [.int p1, .ref q_wfree, .null, .int 0])), (q_wfree, .inl (c_wfree, S, .inl (fun _ => 0)))] := hD
  refine lv_aload_n hx hb d_Wall_init_16 rfl (lv_at hl 0 rfl) ?_
  refine lv_bipush (v := 8) hx hb d_Wall_init_17 (by decide) ?_
  refine va_newa (atype := .int) (n := 8) (ty := .int) (a0 := (8, .inl (fun _ => 0))) (N' := 8) hx hb (hts (.arrayClass .int) (List.mem_cons_of_mem _ m_112)) rfl hK hP hD hS hA (fun _ => rfl) (by decide) (by decide) (show 8 * 4 ≤ 536870912 by omega) (Nat.le_of_ble_eq_true rfl) (Nat.le_of_ble_eq_true rfl) d_Wall_init_19 (fun q_wpip c_wpip H hK hP hD hS => ?_)
  refine W.widen (k := 2) (n := 48) (by omega) (by omega) ?_
  replace hP : va_P D vwCl [(h0, .inr (1, [.int p1, .ref q_wfree, .null, .int 0])), (q_wfree, .inl (c_wfree, S, .inl (fun _ => 0))), (q_wpip, .inl (c_wpip, 8, .inl (fun _ => 0)))] H := hP
  replace hD : va_D A [(h0, .inr (1, [.int p1, .ref q_wfree, .null, .int 0])), (q_wfree, .inl (c_wfree, S, .inl (fun _ => 0))), (q_wpip, .inl (c_wpip, 8, .inl (fun _ => 0)))] := hD
  replace hK : va_K D vwCl [(c_wfree, .boolean), (c_wpip, .int)] s := hK
  refine va_putF (D := D) (ci := 1) (v := .ref q_wpip) (ty := (.array .int)) (C := R_Wall) (T := F_Wall) (N := 4) hx hb hts hn_Wall t_Wall t_Wall_ok n_Wall hown hK hP hD hS 0 rfl rfl 2 (by decide) hL19 (fun _ h9 => h9) rfl hin rfl (by decide +kernel) rfl rfl (Nat.le_of_ble_eq_true rfl) d_Wall_init_21 (fun H locs hP hD hS => ?_)
  replace hP : va_P D vwCl [(h0, .inr (1, [.int p1, .ref q_wfree, .ref q_wpip, .int 0])), (q_wfree, .inl (c_wfree, S, .inl (fun _ => 0))), (q_wpip, .inl (c_wpip, 8, .inl (fun _ => 0)))] H := hP
  replace hD : va_D A [(h0, .inr (1, [.int p1, .ref q_wfree, .ref q_wpip, .int 0])), (q_wfree, .inl (c_wfree, S, .inl (fun _ => 0))), (q_wpip, .inl (c_wpip, 8, .inl (fun _ => 0)))] := hD
  refine lv_aload_n hx hb d_Wall_init_24 rfl (lv_at hl 0 rfl) ?_
  refine lv_iconst (v := 0) hx hb d_Wall_init_25 (by decide) ?_
  refine va_put (D := D) (ci := 1) (v := .int 0) (ty := .int) (C := R_Wall) (T := F_Wall) (N := 4) hx hb hts hn_Wall t_Wall t_Wall_ok n_Wall hown hK hP hD hS 0 rfl rfl 3 (by decide) hL23 (fun _ h9 => h9) rfl (by decide +kernel) rfl rfl (Nat.le_of_ble_eq_true rfl) d_Wall_init_26 (fun H locs hP hD hS => ?_)
  replace hP : va_P D vwCl [(h0, .inr (1, [.int p1, .ref q_wfree, .ref q_wpip, .int 0])), (q_wfree, .inl (c_wfree, S, .inl (fun _ => 0))), (q_wpip, .inl (c_wpip, 8, .inl (fun _ => 0)))] H := hP
  replace hD : va_D A [(h0, .inr (1, [.int p1, .ref q_wfree, .ref q_wpip, .int 0])), (q_wfree, .inl (c_wfree, S, .inl (fun _ => 0))), (q_wpip, .inl (c_wpip, 8, .inl (fun _ => 0)))] := hD
  exact W.vret hx hb hr (fun t ht hW => ⟨⟨(), rfl, trivial, q_wfree, q_wpip, c_wfree, c_wpip, by rw [ht]; exact hP, va_K.moved hW.alike hK, hD⟩, hS.F ht⟩) hS.2.2 d_Wall_init_29
set_option maxRecDepth 100000 in
set_option maxHeartbeats 4000000 in
theorem c_Items_init (l : Launch) (D : va_G) (h0 : Nat)  (sz : Nat) : Met l y_Items_init w_Items_init { frames := 1, cells := 7, slots := 276, locals := 12 } (q_PcM [.ref h0] D vwCl [(h0, .inr (2, [.null, .null, .null, .null, .null, .null, .null, .int 0, .int 0]))] [] sz) (va_Qv (fun _ : Unit => True) (fun (_ : Unit) (t : State) => ∃ (q_iwid q_inee q_ibar q_inea q_iswi q_iswo q_isce : Nat) (c_iwid c_inee c_ibar c_inea c_iswi c_iswo c_isce : ClassId), va_P D vwCl [(h0, .inr (2, [.ref q_iwid, .ref q_inee, .ref q_ibar, .ref q_inea, .ref q_iswi, .ref q_iswo, .ref q_isce, .int 0, .int 0])), (q_iwid, .inl (c_iwid, 6, .inl (fun _ => 0))), (q_inee, .inl (c_inee, 6, .inl (fun _ => 0))), (q_ibar, .inl (c_ibar, 8, .inl (fun _ => 0))), (q_inea, .inl (c_inea, 64, .inr (.inl (fun _ => 0)))), (q_iswi, .inl (c_iswi, 64, .inl (fun _ => 0))), (q_iswo, .inl (c_iswo, 64, .inr (.inl (fun _ => 0)))), (q_isce, .inl (c_isce, 64, .inr (.inl (fun _ => 0))))] t.heap ∧ va_K D vwCl [(c_iwid, .int), (c_inee, .int), (c_ibar, .int), (c_inea, .long), (c_iswi, .int), (c_iswo, .long), (c_isce, .long)] t ∧ va_D (va_A [(h0, .inr (2, [.null, .null, .null, .null, .null, .null, .null, .int 0, .int 0]))] sz) [(h0, .inr (2, [.ref q_iwid, .ref q_inee, .ref q_ibar, .ref q_inea, .ref q_iswi, .ref q_iswo, .ref q_isce, .int 0, .int 0])), (q_iwid, .inl (c_iwid, 6, .inl (fun _ => 0))), (q_inee, .inl (c_inee, 6, .inl (fun _ => 0))), (q_ibar, .inl (c_ibar, 8, .inl (fun _ => 0))), (q_inea, .inl (c_inea, 64, .inr (.inl (fun _ => 0)))), (q_iswi, .inl (c_iswi, 64, .inl (fun _ => 0))), (q_iswo, .inl (c_iswo, 64, .inr (.inl (fun _ => 0)))), (q_isce, .inl (c_isce, 64, .inr (.inl (fun _ => 0))))]) (va_A [(h0, .inr (2, [.null, .null, .null, .null, .null, .null, .null, .int 0, .int 0]))] sz)) 7 276 (va_A [(h0, .inr (2, [.null, .null, .null, .null, .null, .null, .null, .int 0, .int 0]))] sz) := by
  refine Met.ofW (cc := b_Items_init) (maxL := 1) (ret := none) (by decide) rfl ?_
  intro p e s m args below meth c s₁ B hml hv
  obtain ⟨rfl, hsz, hP, hK, hD0, hE⟩ := hv
  have hx := B.exec
  have hb := B.bytes
  have hr := B.returns
  have hts := atoms_spec (ws := w_Items_init) B.pre
  have hown : s.vm.findClass R_Items = some m.cls := findClass_of_methodNamed B.named
  have hlocks := B.notSynchronized
  have hin : meth.name = "<init>" := (name_of_methodNamed B.named B.method).1
  have hn_Items : ∀ w ∈ u_ws R_Items F_Items 9, w ∈ w_Items_init := (fun w h => List.mem_cons_of_mem _ (i_Items w h))
  have hL9 := hts (.fieldLink R_Items 9 "RoomFills$Items" "width" "[I") (List.mem_cons_of_mem _ m_119)
  have hL15 := hts (.fieldLink R_Items 15 "RoomFills$Items" "needMost" "[I") (List.mem_cons_of_mem _ m_123)
  have hL18 := hts (.fieldLink R_Items 18 "RoomFills$Items" "barredSet" "[I") (List.mem_cons_of_mem _ m_124)
  have hL21 := hts (.fieldLink R_Items 21 "RoomFills$Items" "nearWorth" "[J") (List.mem_cons_of_mem _ m_126)
  have hL25 := hts (.fieldLink R_Items 25 "RoomFills$Items" "setWidth" "[I") (List.mem_cons_of_mem _ m_128)
  have hL28 := hts (.fieldLink R_Items 28 "RoomFills$Items" "setWorth" "[J") (List.mem_cons_of_mem _ m_130)
  have hL31 := hts (.fieldLink R_Items 31 "RoomFills$Items" "setCents" "[J") (List.mem_cons_of_mem _ m_133)
  have hL34 := hts (.fieldLink R_Items 34 "RoomFills$Items" "mustSet" "I") (List.mem_cons_of_mem _ m_135)
  have hL38 := hts (.fieldLink R_Items 38 "RoomFills$Items" "count" "I") (List.mem_cons_of_mem _ m_138)
  subst hsz
  have hD := hD0.self (sz := s.heap.size)
  generalize hAe : va_A [(h0, .inr (2, [.null, .null, .null, .null, .null, .null, .null, .int 0, .int 0]))] s.heap.size = A at hD ⊢
  have hA : ∀ q : Nat, s.heap.size ≤ q → A q := fun q h => by rw [← hAe]; exact Or.inr h
  have hS : va_S A s.heap s.heap [] := va_S.rf
  replace hP : va_P D vwCl [(h0, .inr (2, [.null, .null, .null, .null, .null, .null, .null, .int 0, .int 0]))] s.heap := hP
  have hl := lv_entry ([.ref h0]) (n := 1) (Nat.le_of_ble_eq_true rfl)
  rw [lg_entry_eq]
  generalize (lg_sl ([.ref h0]) ++ List.replicate (1 - (lg_sl ([.ref h0])).length) Slot.unset).toArray = ls at hl ⊢
  replace hl : lv_has ls 1 [(0, .ref h0)] := hl
  refine lv_aload_n hx hb d_Items_init_0 rfl (lv_at hl 0 rfl) ?_
  refine W.objInit hx hb hown (hts (.methodLink R_Items 3 objectInit) (List.mem_cons_of_mem _ m_118)) (hts (.instanceMethod objectInit) (List.mem_cons_of_mem _ m_78)) (hts _ (List.mem_cons_of_mem _ m_79)) rfl (by rw [hml]; exact hl.1) rfl d_Items_init_1 (Nat.le_of_ble_eq_true rfl) (Nat.le_of_ble_eq_true rfl) ?_
  refine W.eq (g2 := F0 m 4 ls []) rfl ?_
  refine lv_aload_n hx hb d_Items_init_4 rfl (lv_at hl 0 rfl) ?_
  refine lv_bipush (v := 6) hx hb d_Items_init_5 (by decide) ?_
  refine va_newa (atype := .int) (n := 6) (ty := .int) (a0 := (6, .inl (fun _ => 0))) (N' := 6) hx hb (hts (.arrayClass .int) (List.mem_cons_of_mem _ m_112)) rfl hK hP hD hS hA (fun _ => rfl) (by decide) (by decide) (show 6 * 4 ≤ 536870912 by omega) (Nat.le_of_ble_eq_true rfl) (Nat.le_of_ble_eq_true rfl) d_Items_init_7 (fun q_iwid c_iwid H hK hP hD hS => ?_)
  refine W.widen (k := 1) (n := 6) (by omega) (by omega) ?_
  replace hP : va_P D vwCl [(h0, .inr (2, [.null, .null, .null, .null, .null, .null, .null, .int 0, .int 0])), (q_iwid, .inl (c_iwid, 6, .inl (fun _ => 0)))] H := hP
  replace hD : va_D A [(h0, .inr (2, [.null, .null, .null, .null, .null, .null, .null, .int 0, .int 0])), (q_iwid, .inl (c_iwid, 6, .inl (fun _ => 0)))] := hD
  replace hK : va_K D vwCl [(c_iwid, .int)] s := hK
  refine va_putF (D := D) (ci := 2) (v := .ref q_iwid) (ty := (.array .int)) (C := R_Items) (T := F_Items) (N := 9) hx hb hts hn_Items t_Items t_Items_ok n_Items hown hK hP hD hS 0 rfl rfl 0 (by decide) hL9 (fun _ h9 => h9) rfl hin rfl (by decide +kernel) rfl rfl (Nat.le_of_ble_eq_true rfl) d_Items_init_9 (fun H locs hP hD hS => ?_)
  replace hP : va_P D vwCl [(h0, .inr (2, [.ref q_iwid, .null, .null, .null, .null, .null, .null, .int 0, .int 0])), (q_iwid, .inl (c_iwid, 6, .inl (fun _ => 0)))] H := hP
  replace hD : va_D A [(h0, .inr (2, [.ref q_iwid, .null, .null, .null, .null, .null, .null, .int 0, .int 0])), (q_iwid, .inl (c_iwid, 6, .inl (fun _ => 0)))] := hD
  refine lv_aload_n hx hb d_Items_init_12 rfl (lv_at hl 0 rfl) ?_
  refine lv_bipush (v := 6) hx hb d_Items_init_13 (by decide) ?_
  refine va_newa (atype := .int) (n := 6) (ty := .int) (a0 := (6, .inl (fun _ => 0))) (N' := 6) hx hb (hts (.arrayClass .int) (List.mem_cons_of_mem _ m_112)) rfl hK hP hD hS hA (fun _ => rfl) (by decide) (by decide) (show 6 * 4 ≤ 536870912 by omega) (Nat.le_of_ble_eq_true rfl) (Nat.le_of_ble_eq_true rfl) d_Items_init_15 (fun q_inee c_inee H hK hP hD hS => ?_)
  refine W.widen (k := 2) (n := 12) (by omega) (by omega) ?_
  replace hP : va_P D vwCl [(h0, .inr (2, [.ref q_iwid, .null, .null, .null, .null, .null, .null, .int 0, .int 0])), (q_iwid, .inl (c_iwid, 6, .inl (fun _ => 0))), (q_inee, .inl (c_inee, 6, .inl (fun _ => 0)))] H := hP
  replace hD : va_D A [(h0, .inr (2, [.ref q_iwid, .null, .null, .null, .null, .null, .null, .int 0, .int 0])), (q_iwid, .inl (c_iwid, 6, .inl (fun _ => 0))), (q_inee, .inl (c_inee, 6, .inl (fun _ => 0)))] := hD
  replace hK : va_K D vwCl [(c_iwid, .int), (c_inee, .int)] s := hK
  refine va_putF (D := D) (ci := 2) (v := .ref q_inee) (ty := (.array .int)) (C := R_Items) (T := F_Items) (N := 9) hx hb hts hn_Items t_Items t_Items_ok n_Items hown hK hP hD hS 0 rfl rfl 1 (by decide) hL15 (fun _ h9 => h9) rfl hin rfl (by decide +kernel) rfl rfl (Nat.le_of_ble_eq_true rfl) d_Items_init_17 (fun H locs hP hD hS => ?_)
  replace hP : va_P D vwCl [(h0, .inr (2, [.ref q_iwid, .ref q_inee, .null, .null, .null, .null, .null, .int 0, .int 0])), (q_iwid, .inl (c_iwid, 6, .inl (fun _ => 0))), (q_inee, .inl (c_inee, 6, .inl (fun _ => 0)))] H := hP
  replace hD : va_D A [(h0, .inr (2, [.ref q_iwid, .ref q_inee, .null, .null, .null, .null, .null, .int 0, .int 0])), (q_iwid, .inl (c_iwid, 6, .inl (fun _ => 0))), (q_inee, .inl (c_inee, 6, .inl (fun _ => 0)))] := hD
  refine lv_aload_n hx hb d_Items_init_20 rfl (lv_at hl 0 rfl) ?_
  refine lv_bipush (v := 8) hx hb d_Items_init_21 (by decide) ?_
  refine va_newa (atype := .int) (n := 8) (ty := .int) (a0 := (8, .inl (fun _ => 0))) (N' := 8) hx hb (hts (.arrayClass .int) (List.mem_cons_of_mem _ m_112)) rfl hK hP hD hS hA (fun _ => rfl) (by decide) (by decide) (show 8 * 4 ≤ 536870912 by omega) (Nat.le_of_ble_eq_true rfl) (Nat.le_of_ble_eq_true rfl) d_Items_init_23 (fun q_ibar c_ibar H hK hP hD hS => ?_)
  refine W.widen (k := 3) (n := 20) (by omega) (by omega) ?_
  replace hP : va_P D vwCl [(h0, .inr (2, [.ref q_iwid, .ref q_inee, .null, .null, .null, .null, .null, .int 0, .int 0])), (q_iwid, .inl (c_iwid, 6, .inl (fun _ => 0))), (q_inee, .inl (c_inee, 6, .inl (fun _ => 0))), (q_ibar, .inl (c_ibar, 8, .inl (fun _ => 0)))] H := hP
  replace hD : va_D A [(h0, .inr (2, [.ref q_iwid, .ref q_inee, .null, .null, .null, .null, .null, .int 0, .int 0])), (q_iwid, .inl (c_iwid, 6, .inl (fun _ => 0))), (q_inee, .inl (c_inee, 6, .inl (fun _ => 0))), (q_ibar, .inl (c_ibar, 8, .inl (fun _ => 0)))] := hD
  replace hK : va_K D vwCl [(c_iwid, .int), (c_inee, .int), (c_ibar, .int)] s := hK
  refine va_putF (D := D) (ci := 2) (v := .ref q_ibar) (ty := (.array .int)) (C := R_Items) (T := F_Items) (N := 9) hx hb hts hn_Items t_Items t_Items_ok n_Items hown hK hP hD hS 0 rfl rfl 2 (by decide) hL18 (fun _ h9 => h9) rfl hin rfl (by decide +kernel) rfl rfl (Nat.le_of_ble_eq_true rfl) d_Items_init_25 (fun H locs hP hD hS => ?_)
  replace hP : va_P D vwCl [(h0, .inr (2, [.ref q_iwid, .ref q_inee, .ref q_ibar, .null, .null, .null, .null, .int 0, .int 0])), (q_iwid, .inl (c_iwid, 6, .inl (fun _ => 0))), (q_inee, .inl (c_inee, 6, .inl (fun _ => 0))), (q_ibar, .inl (c_ibar, 8, .inl (fun _ => 0)))] H := hP
  replace hD : va_D A [(h0, .inr (2, [.ref q_iwid, .ref q_inee, .ref q_ibar, .null, .null, .null, .null, .int 0, .int 0])), (q_iwid, .inl (c_iwid, 6, .inl (fun _ => 0))), (q_inee, .inl (c_inee, 6, .inl (fun _ => 0))), (q_ibar, .inl (c_ibar, 8, .inl (fun _ => 0)))] := hD
  refine lv_aload_n hx hb d_Items_init_28 rfl (lv_at hl 0 rfl) ?_
  refine lv_bipush (v := 64) hx hb d_Items_init_29 (by decide) ?_
  refine va_newa (atype := .long) (n := 64) (ty := .long) (a0 := (64, .inr (.inl (fun _ => 0)))) (N' := 64) hx hb (hts (.arrayClass .long) (List.mem_cons_of_mem _ m_162)) rfl hK hP hD hS hA (fun _ => rfl) (by decide) (by decide) (show 64 * 8 ≤ 536870912 by omega) (Nat.le_of_ble_eq_true rfl) (Nat.le_of_ble_eq_true rfl) d_Items_init_31 (fun q_inea c_inea H hK hP hD hS => ?_)
  refine W.widen (k := 4) (n := 84) (by omega) (by omega) ?_
  replace hP : va_P D vwCl [(h0, .inr (2, [.ref q_iwid, .ref q_inee, .ref q_ibar, .null, .null, .null, .null, .int 0, .int 0])), (q_iwid, .inl (c_iwid, 6, .inl (fun _ => 0))), (q_inee, .inl (c_inee, 6, .inl (fun _ => 0))), (q_ibar, .inl (c_ibar, 8, .inl (fun _ => 0))), (q_inea, .inl (c_inea, 64, .inr (.inl (fun _ => 0))))] H := hP
  replace hD : va_D A [(h0, .inr (2, [.ref q_iwid, .ref q_inee, .ref q_ibar, .null, .null, .null, .null, .int 0, .int 0])), (q_iwid, .inl (c_iwid, 6, .inl (fun _ => 0))), (q_inee, .inl (c_inee, 6, .inl (fun _ => 0))), (q_ibar, .inl (c_ibar, 8, .inl (fun _ => 0))), (q_inea, .inl (c_inea, 64, .inr (.inl (fun _ => 0))))] := hD
  replace hK : va_K D vwCl [(c_iwid, .int), (c_inee, .int), (c_ibar, .int), (c_inea, .long)] s := hK
  refine va_putF (D := D) (ci := 2) (v := .ref q_inea) (ty := (.array .long)) (C := R_Items) (T := F_Items) (N := 9) hx hb hts hn_Items t_Items t_Items_ok n_Items hown hK hP hD hS 0 rfl rfl 3 (by decide) hL21 (fun _ h9 => h9) rfl hin rfl (by decide +kernel) rfl rfl (Nat.le_of_ble_eq_true rfl) d_Items_init_33 (fun H locs hP hD hS => ?_)
  replace hP : va_P D vwCl [(h0, .inr (2, [.ref q_iwid, .ref q_inee, .ref q_ibar, .ref q_inea, .null, .null, .null, .int 0, .int 0])), (q_iwid, .inl (c_iwid, 6, .inl (fun _ => 0))), (q_inee, .inl (c_inee, 6, .inl (fun _ => 0))), (q_ibar, .inl (c_ibar, 8, .inl (fun _ => 0))), (q_inea, .inl (c_inea, 64, .inr (.inl (fun _ => 0))))] H := hP
  replace hD : va_D A [(h0, .inr (2, [.ref q_iwid, .ref q_inee, .ref q_ibar, .ref q_inea, .null, .null, .null, .int 0, .int 0])), (q_iwid, .inl (c_iwid, 6, .inl (fun _ => 0))), (q_inee, .inl (c_inee, 6, .inl (fun _ => 0))), (q_ibar, .inl (c_ibar, 8, .inl (fun _ => 0))), (q_inea, .inl (c_inea, 64, .inr (.inl (fun _ => 0))))] := hD
  refine lv_aload_n hx hb d_Items_init_36 rfl (lv_at hl 0 rfl) ?_
  refine lv_bipush (v := 64) hx hb d_Items_init_37 (by decide) ?_
  refine va_newa (atype := .int) (n := 64) (ty := .int) (a0 := (64, .inl (fun _ => 0))) (N' := 64) hx hb (hts (.arrayClass .int) (List.mem_cons_of_mem _ m_112)) rfl hK hP hD hS hA (fun _ => rfl) (by decide) (by decide) (show 64 * 4 ≤ 536870912 by omega) (Nat.le_of_ble_eq_true rfl) (Nat.le_of_ble_eq_true rfl) d_Items_init_39 (fun q_iswi c_iswi H hK hP hD hS => ?_)
  refine W.widen (k := 5) (n := 148) (by omega) (by omega) ?_
  replace hP : va_P D vwCl [(h0, .inr (2, [.ref q_iwid, .ref q_inee, .ref q_ibar, .ref q_inea, .null, .null, .null, .int 0, .int 0])), (q_iwid, .inl (c_iwid, 6, .inl (fun _ => 0))), (q_inee, .inl (c_inee, 6, .inl (fun _ => 0))), (q_ibar, .inl (c_ibar, 8, .inl (fun _ => 0))), (q_inea, .inl (c_inea, 64, .inr (.inl (fun _ => 0)))), (q_iswi, .inl (c_iswi, 64, .inl (fun _ => 0)))] H := hP
  replace hD : va_D A [(h0, .inr (2, [.ref q_iwid, .ref q_inee, .ref q_ibar, .ref q_inea, .null, .null, .null, .int 0, .int 0])), (q_iwid, .inl (c_iwid, 6, .inl (fun _ => 0))), (q_inee, .inl (c_inee, 6, .inl (fun _ => 0))), (q_ibar, .inl (c_ibar, 8, .inl (fun _ => 0))), (q_inea, .inl (c_inea, 64, .inr (.inl (fun _ => 0)))), (q_iswi, .inl (c_iswi, 64, .inl (fun _ => 0)))] := hD
  replace hK : va_K D vwCl [(c_iwid, .int), (c_inee, .int), (c_ibar, .int), (c_inea, .long), (c_iswi, .int)] s := hK
  refine va_putF (D := D) (ci := 2) (v := .ref q_iswi) (ty := (.array .int)) (C := R_Items) (T := F_Items) (N := 9) hx hb hts hn_Items t_Items t_Items_ok n_Items hown hK hP hD hS 0 rfl rfl 4 (by decide) hL25 (fun _ h9 => h9) rfl hin rfl (by decide +kernel) rfl rfl (Nat.le_of_ble_eq_true rfl) d_Items_init_41 (fun H locs hP hD hS => ?_)
  replace hP : va_P D vwCl [(h0, .inr (2, [.ref q_iwid, .ref q_inee, .ref q_ibar, .ref q_inea, .ref q_iswi, .null, .null, .int 0, .int 0])), (q_iwid, .inl (c_iwid, 6, .inl (fun _ => 0))), (q_inee, .inl (c_inee, 6, .inl (fun _ => 0))), (q_ibar, .inl (c_ibar, 8, .inl (fun _ => 0))), (q_inea, .inl (c_inea, 64, .inr (.inl (fun _ => 0)))), (q_iswi, .inl (c_iswi, 64, .inl (fun _ => 0)))] H := hP
  replace hD : va_D A [(h0, .inr (2, [.ref q_iwid, .ref q_inee, .ref q_ibar, .ref q_inea, .ref q_iswi, .null, .null, .int 0, .int 0])), (q_iwid, .inl (c_iwid, 6, .inl (fun _ => 0))), (q_inee, .inl (c_inee, 6, .inl (fun _ => 0))), (q_ibar, .inl (c_ibar, 8, .inl (fun _ => 0))), (q_inea, .inl (c_inea, 64, .inr (.inl (fun _ => 0)))), (q_iswi, .inl (c_iswi, 64, .inl (fun _ => 0)))] := hD
  refine lv_aload_n hx hb d_Items_init_44 rfl (lv_at hl 0 rfl) ?_
  refine lv_bipush (v := 64) hx hb d_Items_init_45 (by decide) ?_
  refine va_newa (atype := .long) (n := 64) (ty := .long) (a0 := (64, .inr (.inl (fun _ => 0)))) (N' := 64) hx hb (hts (.arrayClass .long) (List.mem_cons_of_mem _ m_162)) rfl hK hP hD hS hA (fun _ => rfl) (by decide) (by decide) (show 64 * 8 ≤ 536870912 by omega) (Nat.le_of_ble_eq_true rfl) (Nat.le_of_ble_eq_true rfl) d_Items_init_47 (fun q_iswo c_iswo H hK hP hD hS => ?_)
  refine W.widen (k := 6) (n := 212) (by omega) (by omega) ?_
  replace hP : va_P D vwCl [(h0, .inr (2, [.ref q_iwid, .ref q_inee, .ref q_ibar, .ref q_inea, .ref q_iswi, .null, .null, .int 0, .int 0])), (q_iwid, .inl (c_iwid, 6, .inl (fun _ => 0))), (q_inee, .inl (c_inee, 6, .inl (fun _ => 0))), (q_ibar, .inl (c_ibar, 8, .inl (fun _ => 0))), (q_inea, .inl (c_inea, 64, .inr (.inl (fun _ => 0)))), (q_iswi, .inl (c_iswi, 64, .inl (fun _ => 0))), (q_iswo, .inl (c_iswo, 64, .inr (.inl (fun _ => 0))))] H := hP
  replace hD : va_D A [(h0, .inr (2, [.ref q_iwid, .ref q_inee, .ref q_ibar, .ref q_inea, .ref q_iswi, .null, .null, .int 0, .int 0])), (q_iwid, .inl (c_iwid, 6, .inl (fun _ => 0))), (q_inee, .inl (c_inee, 6, .inl (fun _ => 0))), (q_ibar, .inl (c_ibar, 8, .inl (fun _ => 0))), (q_inea, .inl (c_inea, 64, .inr (.inl (fun _ => 0)))), (q_iswi, .inl (c_iswi, 64, .inl (fun _ => 0))), (q_iswo, .inl (c_iswo, 64, .inr (.inl (fun _ => 0))))] := hD
  replace hK : va_K D vwCl [(c_iwid, .int), (c_inee, .int), (c_ibar, .int), (c_inea, .long), (c_iswi, .int), (c_iswo, .long)] s := hK
  refine va_putF (D := D) (ci := 2) (v := .ref q_iswo) (ty := (.array .long)) (C := R_Items) (T := F_Items) (N := 9) hx hb hts hn_Items t_Items t_Items_ok n_Items hown hK hP hD hS 0 rfl rfl 5 (by decide) hL28 (fun _ h9 => h9) rfl hin rfl (by decide +kernel) rfl rfl (Nat.le_of_ble_eq_true rfl) d_Items_init_49 (fun H locs hP hD hS => ?_)
  replace hP : va_P D vwCl [(h0, .inr (2, [.ref q_iwid, .ref q_inee, .ref q_ibar, .ref q_inea, .ref q_iswi, .ref q_iswo, .null, .int 0, .int 0])), (q_iwid, .inl (c_iwid, 6, .inl (fun _ => 0))), (q_inee, .inl (c_inee, 6, .inl (fun _ => 0))), (q_ibar, .inl (c_ibar, 8, .inl (fun _ => 0))), (q_inea, .inl (c_inea, 64, .inr (.inl (fun _ => 0)))), (q_iswi, .inl (c_iswi, 64, .inl (fun _ => 0))), (q_iswo, .inl (c_iswo, 64, .inr (.inl (fun _ => 0))))] H := hP
  replace hD : va_D A [(h0, .inr (2, [.ref q_iwid, .ref q_inee, .ref q_ibar, .ref q_inea, .ref q_iswi, .ref q_iswo, .null, .int 0, .int 0])), (q_iwid, .inl (c_iwid, 6, .inl (fun _ => 0))), (q_inee, .inl (c_inee, 6, .inl (fun _ => 0))), (q_ibar, .inl (c_ibar, 8, .inl (fun _ => 0))), (q_inea, .inl (c_inea, 64, .inr (.inl (fun _ => 0)))), (q_iswi, .inl (c_iswi, 64, .inl (fun _ => 0))), (q_iswo, .inl (c_iswo, 64, .inr (.inl (fun _ => 0))))] := hD
  refine lv_aload_n hx hb d_Items_init_52 rfl (lv_at hl 0 rfl) ?_
  refine lv_bipush (v := 64) hx hb d_Items_init_53 (by decide) ?_
  refine va_newa (atype := .long) (n := 64) (ty := .long) (a0 := (64, .inr (.inl (fun _ => 0)))) (N' := 64) hx hb (hts (.arrayClass .long) (List.mem_cons_of_mem _ m_162)) rfl hK hP hD hS hA (fun _ => rfl) (by decide) (by decide) (show 64 * 8 ≤ 536870912 by omega) (Nat.le_of_ble_eq_true rfl) (Nat.le_of_ble_eq_true rfl) d_Items_init_55 (fun q_isce c_isce H hK hP hD hS => ?_)
  refine W.widen (k := 7) (n := 276) (by omega) (by omega) ?_
  replace hP : va_P D vwCl [(h0, .inr (2, [.ref q_iwid, .ref q_inee, .ref q_ibar, .ref q_inea, .ref q_iswi, .ref q_iswo, .null, .int 0, .int 0])), (q_iwid, .inl (c_iwid, 6, .inl (fun _ => 0))), (q_inee, .inl (c_inee, 6, .inl (fun _ => 0))), (q_ibar, .inl (c_ibar, 8, .inl (fun _ => 0))), (q_inea, .inl (c_inea, 64, .inr (.inl (fun _ => 0)))), (q_iswi, .inl (c_iswi, 64, .inl (fun _ => 0))), (q_iswo, .inl (c_iswo, 64, .inr (.inl (fun _ => 0)))), (q_isce, .inl (c_isce, 64, .inr (.inl (fun _ => 0))))] H := hP
  replace hD : va_D A [(h0, .inr (2, [.ref q_iwid, .ref q_inee, .ref q_ibar, .ref q_inea, .ref q_iswi, .ref q_iswo, .null, .int 0, .int 0])), (q_iwid, .inl (c_iwid, 6, .inl (fun _ => 0))), (q_inee, .inl (c_inee, 6, .inl (fun _ => 0))), (q_ibar, .inl (c_ibar, 8, .inl (fun _ => 0))), (q_inea, .inl (c_inea, 64, .inr (.inl (fun _ => 0)))), (q_iswi, .inl (c_iswi, 64, .inl (fun _ => 0))), (q_iswo, .inl (c_iswo, 64, .inr (.inl (fun _ => 0)))), (q_isce, .inl (c_isce, 64, .inr (.inl (fun _ => 0))))] := hD
  replace hK : va_K D vwCl [(c_iwid, .int), (c_inee, .int), (c_ibar, .int), (c_inea, .long), (c_iswi, .int), (c_iswo, .long), (c_isce, .long)] s := hK
  refine va_putF (D := D) (ci := 2) (v := .ref q_isce) (ty := (.array .long)) (C := R_Items) (T := F_Items) (N := 9) hx hb hts hn_Items t_Items t_Items_ok n_Items hown hK hP hD hS 0 rfl rfl 6 (by decide) hL31 (fun _ h9 => h9) rfl hin rfl (by decide +kernel) rfl rfl (Nat.le_of_ble_eq_true rfl) d_Items_init_57 (fun H locs hP hD hS => ?_)
  replace hP : va_P D vwCl [(h0, .inr (2, [.ref q_iwid, .ref q_inee, .ref q_ibar, .ref q_inea, .ref q_iswi, .ref q_iswo, .ref q_isce, .int 0, .int 0])), (q_iwid, .inl (c_iwid, 6, .inl (fun _ => 0))), (q_inee, .inl (c_inee, 6, .inl (fun _ => 0))), (q_ibar, .inl (c_ibar, 8, .inl (fun _ => 0))), (q_inea, .inl (c_inea, 64, .inr (.inl (fun _ => 0)))), (q_iswi, .inl (c_iswi, 64, .inl (fun _ => 0))), (q_iswo, .inl (c_iswo, 64, .inr (.inl (fun _ => 0)))), (q_isce, .inl (c_isce, 64, .inr (.inl (fun _ => 0))))] H := hP
  replace hD : va_D A [(h0, .inr (2, [.ref q_iwid, .ref q_inee, .ref q_ibar, .ref q_inea, .ref q_iswi, .ref q_iswo, .ref q_isce, .int 0, .int 0])), (q_iwid, .inl (c_iwid, 6, .inl (fun _ => 0))), (q_inee, .inl (c_inee, 6, .inl (fun _ => 0))), (q_ibar, .inl (c_ibar, 8, .inl (fun _ => 0))), (q_inea, .inl (c_inea, 64, .inr (.inl (fun _ => 0)))), (q_iswi, .inl (c_iswi, 64, .inl (fun _ => 0))), (q_iswo, .inl (c_iswo, 64, .inr (.inl (fun _ => 0)))), (q_isce, .inl (c_isce, 64, .inr (.inl (fun _ => 0))))] := hD
  refine lv_aload_n hx hb d_Items_init_60 rfl (lv_at hl 0 rfl) ?_
  refine lv_iconst (v := 0) hx hb d_Items_init_61 (by decide) ?_
  refine va_put (D := D) (ci := 2) (v := .int 0) (ty := .int) (C := R_Items) (T := F_Items) (N := 9) hx hb hts hn_Items t_Items t_Items_ok n_Items hown hK hP hD hS 0 rfl rfl 7 (by decide) hL34 (fun _ h9 => h9) rfl (by decide +kernel) rfl rfl (Nat.le_of_ble_eq_true rfl) d_Items_init_62 (fun H locs hP hD hS => ?_)
  replace hP : va_P D vwCl [(h0, .inr (2, [.ref q_iwid, .ref q_inee, .ref q_ibar, .ref q_inea, .ref q_iswi, .ref q_iswo, .ref q_isce, .int 0, .int 0])), (q_iwid, .inl (c_iwid, 6, .inl (fun _ => 0))), (q_inee, .inl (c_inee, 6, .inl (fun _ => 0))), (q_ibar, .inl (c_ibar, 8, .inl (fun _ => 0))), (q_inea, .inl (c_inea, 64, .inr (.inl (fun _ => 0)))), (q_iswi, .inl (c_iswi, 64, .inl (fun _ => 0))), (q_iswo, .inl (c_iswo, 64, .inr (.inl (fun _ => 0)))), (q_isce, .inl (c_isce, 64, .inr (.inl (fun _ => 0))))] H := hP
  replace hD : va_D A [(h0, .inr (2, [.ref q_iwid, .ref q_inee, .ref q_ibar, .ref q_inea, .ref q_iswi, .ref q_iswo, .ref q_isce, .int 0, .int 0])), (q_iwid, .inl (c_iwid, 6, .inl (fun _ => 0))), (q_inee, .inl (c_inee, 6, .inl (fun _ => 0))), (q_ibar, .inl (c_ibar, 8, .inl (fun _ => 0))), (q_inea, .inl (c_inea, 64, .inr (.inl (fun _ => 0)))), (q_iswi, .inl (c_iswi, 64, .inl (fun _ => 0))), (q_iswo, .inl (c_iswo, 64, .inr (.inl (fun _ => 0)))), (q_isce, .inl (c_isce, 64, .inr (.inl (fun _ => 0))))] := hD
  refine lv_aload_n hx hb d_Items_init_65 rfl (lv_at hl 0 rfl) ?_
  refine lv_iconst (v := 0) hx hb d_Items_init_66 (by decide) ?_
  refine va_put (D := D) (ci := 2) (v := .int 0) (ty := .int) (C := R_Items) (T := F_Items) (N := 9) hx hb hts hn_Items t_Items t_Items_ok n_Items hown hK hP hD hS 0 rfl rfl 8 (by decide) hL38 (fun _ h9 => h9) rfl (by decide +kernel) rfl rfl (Nat.le_of_ble_eq_true rfl) d_Items_init_67 (fun H locs hP hD hS => ?_)
  replace hP : va_P D vwCl [(h0, .inr (2, [.ref q_iwid, .ref q_inee, .ref q_ibar, .ref q_inea, .ref q_iswi, .ref q_iswo, .ref q_isce, .int 0, .int 0])), (q_iwid, .inl (c_iwid, 6, .inl (fun _ => 0))), (q_inee, .inl (c_inee, 6, .inl (fun _ => 0))), (q_ibar, .inl (c_ibar, 8, .inl (fun _ => 0))), (q_inea, .inl (c_inea, 64, .inr (.inl (fun _ => 0)))), (q_iswi, .inl (c_iswi, 64, .inl (fun _ => 0))), (q_iswo, .inl (c_iswo, 64, .inr (.inl (fun _ => 0)))), (q_isce, .inl (c_isce, 64, .inr (.inl (fun _ => 0))))] H := hP
  replace hD : va_D A [(h0, .inr (2, [.ref q_iwid, .ref q_inee, .ref q_ibar, .ref q_inea, .ref q_iswi, .ref q_iswo, .ref q_isce, .int 0, .int 0])), (q_iwid, .inl (c_iwid, 6, .inl (fun _ => 0))), (q_inee, .inl (c_inee, 6, .inl (fun _ => 0))), (q_ibar, .inl (c_ibar, 8, .inl (fun _ => 0))), (q_inea, .inl (c_inea, 64, .inr (.inl (fun _ => 0)))), (q_iswi, .inl (c_iswi, 64, .inl (fun _ => 0))), (q_iswo, .inl (c_iswo, 64, .inr (.inl (fun _ => 0)))), (q_isce, .inl (c_isce, 64, .inr (.inl (fun _ => 0))))] := hD
  exact W.vret hx hb hr (fun t ht hW => ⟨⟨(), rfl, trivial, q_iwid, q_inee, q_ibar, q_inea, q_iswi, q_iswo, q_isce, c_iwid, c_inee, c_ibar, c_inea, c_iswi, c_iswo, c_isce, by rw [ht]; exact hP, va_K.moved hW.alike hK, hD⟩, hS.F ht⟩) hS.2.2 d_Items_init_70
set_option maxRecDepth 100000 in
set_option maxHeartbeats 4000000 in
theorem c_Fillers_init (l : Launch) (D : va_G) (h0 : Nat)  (sz : Nat) : Met l y_Fillers_init w_Fillers_init { frames := 1, cells := 0, slots := 0, locals := 12 } (q_PcM [.ref h0] D vwCl [(h0, .inr (3, [.int 0, .int 0]))] [] sz) (va_Qv (fun _ : Unit => True) (fun (_ : Unit) (t : State) => va_P D vwCl [(h0, .inr (3, [.int 1, .int 0]))] t.heap ∧ va_K D vwCl [] t ∧ va_D (va_A [(h0, .inr (3, [.int 0, .int 0]))] sz) [(h0, .inr (3, [.int 1, .int 0]))]) (va_A [(h0, .inr (3, [.int 0, .int 0]))] sz)) 0 0 (va_A [(h0, .inr (3, [.int 0, .int 0]))] sz) := by
  refine Met.ofW (cc := b_Fillers_init) (maxL := 1) (ret := none) (by decide) rfl ?_
  intro p e s m args below meth c s₁ B hml hv
  obtain ⟨rfl, hsz, hP, hK, hD0, hE⟩ := hv
  have hx := B.exec
  have hb := B.bytes
  have hr := B.returns
  have hts := atoms_spec (ws := w_Fillers_init) B.pre
  have hown : s.vm.findClass R_Fillers = some m.cls := findClass_of_methodNamed B.named
  have hlocks := B.notSynchronized
  have hin : meth.name = "<init>" := (name_of_methodNamed B.named B.method).1
  have hn_Fillers : ∀ w ∈ u_ws R_Fillers F_Fillers 2, w ∈ w_Fillers_init := (fun w h => List.mem_cons_of_mem _ (i_Fillers w h))
  have hL7 := hts (.fieldLink R_Fillers 7 "RoomFills$Fillers" "least" "I") (List.mem_cons_of_mem _ m_169)
  have hL13 := hts (.fieldLink R_Fillers 13 "RoomFills$Fillers" "most" "I") (List.mem_cons_of_mem _ m_172)
  subst hsz
  have hD := hD0.self (sz := s.heap.size)
  generalize hAe : va_A [(h0, .inr (3, [.int 0, .int 0]))] s.heap.size = A at hD ⊢
  have hA : ∀ q : Nat, s.heap.size ≤ q → A q := fun q h => by rw [← hAe]; exact Or.inr h
  have hS : va_S A s.heap s.heap [] := va_S.rf
  replace hP : va_P D vwCl [(h0, .inr (3, [.int 0, .int 0]))] s.heap := hP
  have hl := lv_entry ([.ref h0]) (n := 1) (Nat.le_of_ble_eq_true rfl)
  rw [lg_entry_eq]
  generalize (lg_sl ([.ref h0]) ++ List.replicate (1 - (lg_sl ([.ref h0])).length) Slot.unset).toArray = ls at hl ⊢
  replace hl : lv_has ls 1 [(0, .ref h0)] := hl
  refine lv_aload_n hx hb d_Fillers_init_0 rfl (lv_at hl 0 rfl) ?_
  refine W.objInit hx hb hown (hts (.methodLink R_Fillers 1 objectInit) (List.mem_cons_of_mem _ m_168)) (hts (.instanceMethod objectInit) (List.mem_cons_of_mem _ m_78)) (hts _ (List.mem_cons_of_mem _ m_79)) rfl (by rw [hml]; exact hl.1) rfl d_Fillers_init_1 (Nat.le_of_ble_eq_true rfl) (Nat.le_of_ble_eq_true rfl) ?_
  refine W.eq (g2 := F0 m 4 ls []) rfl ?_
  refine lv_aload_n hx hb d_Fillers_init_4 rfl (lv_at hl 0 rfl) ?_
  refine lv_iconst (v := 1) hx hb d_Fillers_init_5 (by decide) ?_
  refine va_put (D := D) (ci := 3) (v := .int 1) (ty := .int) (C := R_Fillers) (T := F_Fillers) (N := 2) hx hb hts hn_Fillers t_Fillers t_Fillers_ok n_Fillers hown hK hP hD hS 0 rfl rfl 0 (by decide) hL7 (fun _ h9 => h9) rfl (by decide +kernel) rfl rfl (Nat.le_of_ble_eq_true rfl) d_Fillers_init_6 (fun H locs hP hD hS => ?_)
  replace hP : va_P D vwCl [(h0, .inr (3, [.int 1, .int 0]))] H := hP
  replace hD : va_D A [(h0, .inr (3, [.int 1, .int 0]))] := hD
  refine lv_aload_n hx hb d_Fillers_init_9 rfl (lv_at hl 0 rfl) ?_
  refine lv_iconst (v := 0) hx hb d_Fillers_init_10 (by decide) ?_
  refine va_put (D := D) (ci := 3) (v := .int 0) (ty := .int) (C := R_Fillers) (T := F_Fillers) (N := 2) hx hb hts hn_Fillers t_Fillers t_Fillers_ok n_Fillers hown hK hP hD hS 0 rfl rfl 1 (by decide) hL13 (fun _ h9 => h9) rfl (by decide +kernel) rfl rfl (Nat.le_of_ble_eq_true rfl) d_Fillers_init_11 (fun H locs hP hD hS => ?_)
  replace hP : va_P D vwCl [(h0, .inr (3, [.int 1, .int 0]))] H := hP
  replace hD : va_D A [(h0, .inr (3, [.int 1, .int 0]))] := hD
  exact W.vret hx hb hr (fun t ht hW => ⟨⟨(), rfl, trivial, by rw [ht]; exact hP, va_K.moved hW.alike hK, hD⟩, hS.F ht⟩) hS.2.2 d_Fillers_init_14
set_option maxRecDepth 100000 in
set_option maxHeartbeats 4000000 in
theorem c_Plan_init (l : Launch) (D : va_G) (h0 : Nat)  (sz : Nat) : Met l y_Plan_init w_Plan_init { frames := 1, cells := 6, slots := 206, locals := 12 } (q_PcM [.ref h0] D vwCl [(h0, .inr (5, [.null, .null, .null, .null, .null, .null, .int 0, .int 0, .int 0, .long 0, .long 0]))] [] sz) (va_Qv (fun _ : Unit => True) (fun (_ : Unit) (t : State) => ∃ (q_ppi q_ppb q_pps q_ptb q_pts q_pbo : Nat) (c_ppi c_ppb c_pps c_ptb c_pts c_pbo : ClassId), va_P D vwCl [(h0, .inr (5, [.ref q_ppi, .ref q_ppb, .ref q_pps, .ref q_ptb, .ref q_pts, .ref q_pbo, .int 0, .int 0, .int 0, .long 0, .long 0])), (q_ppi, .inl (c_ppi, 40, .inl (fun _ => 0))), (q_ppb, .inl (c_ppb, 40, .inl (fun _ => 0))), (q_pps, .inl (c_pps, 40, .inl (fun _ => 0))), (q_ptb, .inl (c_ptb, 40, .inl (fun _ => 0))), (q_pts, .inl (c_pts, 40, .inl (fun _ => 0))), (q_pbo, .inl (c_pbo, 6, .inl (fun _ => 0)))] t.heap ∧ va_K D vwCl [(c_ppi, .int), (c_ppb, .int), (c_pps, .int), (c_ptb, .int), (c_pts, .int), (c_pbo, .int)] t ∧ va_D (va_A [(h0, .inr (5, [.null, .null, .null, .null, .null, .null, .int 0, .int 0, .int 0, .long 0, .long 0]))] sz) [(h0, .inr (5, [.ref q_ppi, .ref q_ppb, .ref q_pps, .ref q_ptb, .ref q_pts, .ref q_pbo, .int 0, .int 0, .int 0, .long 0, .long 0])), (q_ppi, .inl (c_ppi, 40, .inl (fun _ => 0))), (q_ppb, .inl (c_ppb, 40, .inl (fun _ => 0))), (q_pps, .inl (c_pps, 40, .inl (fun _ => 0))), (q_ptb, .inl (c_ptb, 40, .inl (fun _ => 0))), (q_pts, .inl (c_pts, 40, .inl (fun _ => 0))), (q_pbo, .inl (c_pbo, 6, .inl (fun _ => 0)))]) (va_A [(h0, .inr (5, [.null, .null, .null, .null, .null, .null, .int 0, .int 0, .int 0, .long 0, .long 0]))] sz)) 6 206 (va_A [(h0, .inr (5, [.null, .null, .null, .null, .null, .null, .int 0, .int 0, .int 0, .long 0, .long 0]))] sz) := by
  refine Met.ofW (cc := b_Plan_init) (maxL := 1) (ret := none) (by decide) rfl ?_
  intro p e s m args below meth c s₁ B hml hv
  obtain ⟨rfl, hsz, hP, hK, hD0, hE⟩ := hv
  have hx := B.exec
  have hb := B.bytes
  have hr := B.returns
  have hts := atoms_spec (ws := w_Plan_init) B.pre
  have hown : s.vm.findClass R_Plan = some m.cls := findClass_of_methodNamed B.named
  have hlocks := B.notSynchronized
  have hin : meth.name = "<init>" := (name_of_methodNamed B.named B.method).1
  have hn_Plan : ∀ w ∈ u_ws R_Plan F_Plan 11, w ∈ w_Plan_init := (fun w h => List.mem_cons_of_mem _ (i_Plan w h))
  have hL9 := hts (.fieldLink R_Plan 9 "RoomFills$Plan" "pieceItem" "[I") (List.mem_cons_of_mem _ m_218)
  have hL15 := hts (.fieldLink R_Plan 15 "RoomFills$Plan" "pieceBegin" "[I") (List.mem_cons_of_mem _ m_220)
  have hL18 := hts (.fieldLink R_Plan 18 "RoomFills$Plan" "pieceSteps" "[I") (List.mem_cons_of_mem _ m_222)
  have hL21 := hts (.fieldLink R_Plan 21 "RoomFills$Plan" "topBegin" "[I") (List.mem_cons_of_mem _ m_224)
  have hL24 := hts (.fieldLink R_Plan 24 "RoomFills$Plan" "topSteps" "[I") (List.mem_cons_of_mem _ m_226)
  have hL27 := hts (.fieldLink R_Plan 27 "RoomFills$Plan" "beginOf" "[I") (List.mem_cons_of_mem _ m_228)
  subst hsz
  have hD := hD0.self (sz := s.heap.size)
  generalize hAe : va_A [(h0, .inr (5, [.null, .null, .null, .null, .null, .null, .int 0, .int 0, .int 0, .long 0, .long 0]))] s.heap.size = A at hD ⊢
  have hA : ∀ q : Nat, s.heap.size ≤ q → A q := fun q h => by rw [← hAe]; exact Or.inr h
  have hS : va_S A s.heap s.heap [] := va_S.rf
  replace hP : va_P D vwCl [(h0, .inr (5, [.null, .null, .null, .null, .null, .null, .int 0, .int 0, .int 0, .long 0, .long 0]))] s.heap := hP
  have hl := lv_entry ([.ref h0]) (n := 1) (Nat.le_of_ble_eq_true rfl)
  rw [lg_entry_eq]
  generalize (lg_sl ([.ref h0]) ++ List.replicate (1 - (lg_sl ([.ref h0])).length) Slot.unset).toArray = ls at hl ⊢
  replace hl : lv_has ls 1 [(0, .ref h0)] := hl
  refine lv_aload_n hx hb d_Plan_init_0 rfl (lv_at hl 0 rfl) ?_
  refine W.objInit hx hb hown (hts (.methodLink R_Plan 3 objectInit) (List.mem_cons_of_mem _ m_217)) (hts (.instanceMethod objectInit) (List.mem_cons_of_mem _ m_78)) (hts _ (List.mem_cons_of_mem _ m_79)) rfl (by rw [hml]; exact hl.1) rfl d_Plan_init_1 (Nat.le_of_ble_eq_true rfl) (Nat.le_of_ble_eq_true rfl) ?_
  refine W.eq (g2 := F0 m 4 ls []) rfl ?_
  refine lv_aload_n hx hb d_Plan_init_4 rfl (lv_at hl 0 rfl) ?_
  refine lv_bipush (v := 40) hx hb d_Plan_init_5 (by decide) ?_
  refine va_newa (atype := .int) (n := 40) (ty := .int) (a0 := (40, .inl (fun _ => 0))) (N' := 40) hx hb (hts (.arrayClass .int) (List.mem_cons_of_mem _ m_112)) rfl hK hP hD hS hA (fun _ => rfl) (by decide) (by decide) (show 40 * 4 ≤ 536870912 by omega) (Nat.le_of_ble_eq_true rfl) (Nat.le_of_ble_eq_true rfl) d_Plan_init_7 (fun q_ppi c_ppi H hK hP hD hS => ?_)
  refine W.widen (k := 1) (n := 40) (by omega) (by omega) ?_
  replace hP : va_P D vwCl [(h0, .inr (5, [.null, .null, .null, .null, .null, .null, .int 0, .int 0, .int 0, .long 0, .long 0])), (q_ppi, .inl (c_ppi, 40, .inl (fun _ => 0)))] H := hP
  replace hD : va_D A [(h0, .inr (5, [.null, .null, .null, .null, .null, .null, .int 0, .int 0, .int 0, .long 0, .long 0])), (q_ppi, .inl (c_ppi, 40, .inl (fun _ => 0)))] := hD
  replace hK : va_K D vwCl [(c_ppi, .int)] s := hK
  refine va_putF (D := D) (ci := 5) (v := .ref q_ppi) (ty := (.array .int)) (C := R_Plan) (T := F_Plan) (N := 11) hx hb hts hn_Plan t_Plan t_Plan_ok n_Plan hown hK hP hD hS 0 rfl rfl 0 (by decide) hL9 (fun _ h9 => h9) rfl hin rfl (by decide +kernel) rfl rfl (Nat.le_of_ble_eq_true rfl) d_Plan_init_9 (fun H locs hP hD hS => ?_)
  replace hP : va_P D vwCl [(h0, .inr (5, [.ref q_ppi, .null, .null, .null, .null, .null, .int 0, .int 0, .int 0, .long 0, .long 0])), (q_ppi, .inl (c_ppi, 40, .inl (fun _ => 0)))] H := hP
  replace hD : va_D A [(h0, .inr (5, [.ref q_ppi, .null, .null, .null, .null, .null, .int 0, .int 0, .int 0, .long 0, .long 0])), (q_ppi, .inl (c_ppi, 40, .inl (fun _ => 0)))] := hD
  refine lv_aload_n hx hb d_Plan_init_12 rfl (lv_at hl 0 rfl) ?_
  refine lv_bipush (v := 40) hx hb d_Plan_init_13 (by decide) ?_
  refine va_newa (atype := .int) (n := 40) (ty := .int) (a0 := (40, .inl (fun _ => 0))) (N' := 40) hx hb (hts (.arrayClass .int) (List.mem_cons_of_mem _ m_112)) rfl hK hP hD hS hA (fun _ => rfl) (by decide) (by decide) (show 40 * 4 ≤ 536870912 by omega) (Nat.le_of_ble_eq_true rfl) (Nat.le_of_ble_eq_true rfl) d_Plan_init_15 (fun q_ppb c_ppb H hK hP hD hS => ?_)
  refine W.widen (k := 2) (n := 80) (by omega) (by omega) ?_
  replace hP : va_P D vwCl [(h0, .inr (5, [.ref q_ppi, .null, .null, .null, .null, .null, .int 0, .int 0, .int 0, .long 0, .long 0])), (q_ppi, .inl (c_ppi, 40, .inl (fun _ => 0))), (q_ppb, .inl (c_ppb, 40, .inl (fun _ => 0)))] H := hP
  replace hD : va_D A [(h0, .inr (5, [.ref q_ppi, .null, .null, .null, .null, .null, .int 0, .int 0, .int 0, .long 0, .long 0])), (q_ppi, .inl (c_ppi, 40, .inl (fun _ => 0))), (q_ppb, .inl (c_ppb, 40, .inl (fun _ => 0)))] := hD
  replace hK : va_K D vwCl [(c_ppi, .int), (c_ppb, .int)] s := hK
  refine va_putF (D := D) (ci := 5) (v := .ref q_ppb) (ty := (.array .int)) (C := R_Plan) (T := F_Plan) (N := 11) hx hb hts hn_Plan t_Plan t_Plan_ok n_Plan hown hK hP hD hS 0 rfl rfl 1 (by decide) hL15 (fun _ h9 => h9) rfl hin rfl (by decide +kernel) rfl rfl (Nat.le_of_ble_eq_true rfl) d_Plan_init_17 (fun H locs hP hD hS => ?_)
  replace hP : va_P D vwCl [(h0, .inr (5, [.ref q_ppi, .ref q_ppb, .null, .null, .null, .null, .int 0, .int 0, .int 0, .long 0, .long 0])), (q_ppi, .inl (c_ppi, 40, .inl (fun _ => 0))), (q_ppb, .inl (c_ppb, 40, .inl (fun _ => 0)))] H := hP
  replace hD : va_D A [(h0, .inr (5, [.ref q_ppi, .ref q_ppb, .null, .null, .null, .null, .int 0, .int 0, .int 0, .long 0, .long 0])), (q_ppi, .inl (c_ppi, 40, .inl (fun _ => 0))), (q_ppb, .inl (c_ppb, 40, .inl (fun _ => 0)))] := hD
  refine lv_aload_n hx hb d_Plan_init_20 rfl (lv_at hl 0 rfl) ?_
  refine lv_bipush (v := 40) hx hb d_Plan_init_21 (by decide) ?_
  refine va_newa (atype := .int) (n := 40) (ty := .int) (a0 := (40, .inl (fun _ => 0))) (N' := 40) hx hb (hts (.arrayClass .int) (List.mem_cons_of_mem _ m_112)) rfl hK hP hD hS hA (fun _ => rfl) (by decide) (by decide) (show 40 * 4 ≤ 536870912 by omega) (Nat.le_of_ble_eq_true rfl) (Nat.le_of_ble_eq_true rfl) d_Plan_init_23 (fun q_pps c_pps H hK hP hD hS => ?_)
  refine W.widen (k := 3) (n := 120) (by omega) (by omega) ?_
  replace hP : va_P D vwCl [(h0, .inr (5, [.ref q_ppi, .ref q_ppb, .null, .null, .null, .null, .int 0, .int 0, .int 0, .long 0, .long 0])), (q_ppi, .inl (c_ppi, 40, .inl (fun _ => 0))), (q_ppb, .inl (c_ppb, 40, .inl (fun _ => 0))), (q_pps, .inl (c_pps, 40, .inl (fun _ => 0)))] H := hP
  replace hD : va_D A [(h0, .inr (5, [.ref q_ppi, .ref q_ppb, .null, .null, .null, .null, .int 0, .int 0, .int 0, .long 0, .long 0])), (q_ppi, .inl (c_ppi, 40, .inl (fun _ => 0))), (q_ppb, .inl (c_ppb, 40, .inl (fun _ => 0))), (q_pps, .inl (c_pps, 40, .inl (fun _ => 0)))] := hD
  replace hK : va_K D vwCl [(c_ppi, .int), (c_ppb, .int), (c_pps, .int)] s := hK
  refine va_putF (D := D) (ci := 5) (v := .ref q_pps) (ty := (.array .int)) (C := R_Plan) (T := F_Plan) (N := 11) hx hb hts hn_Plan t_Plan t_Plan_ok n_Plan hown hK hP hD hS 0 rfl rfl 2 (by decide) hL18 (fun _ h9 => h9) rfl hin rfl (by decide +kernel) rfl rfl (Nat.le_of_ble_eq_true rfl) d_Plan_init_25 (fun H locs hP hD hS => ?_)
  replace hP : va_P D vwCl [(h0, .inr (5, [.ref q_ppi, .ref q_ppb, .ref q_pps, .null, .null, .null, .int 0, .int 0, .int 0, .long 0, .long 0])), (q_ppi, .inl (c_ppi, 40, .inl (fun _ => 0))), (q_ppb, .inl (c_ppb, 40, .inl (fun _ => 0))), (q_pps, .inl (c_pps, 40, .inl (fun _ => 0)))] H := hP
  replace hD : va_D A [(h0, .inr (5, [.ref q_ppi, .ref q_ppb, .ref q_pps, .null, .null, .null, .int 0, .int 0, .int 0, .long 0, .long 0])), (q_ppi, .inl (c_ppi, 40, .inl (fun _ => 0))), (q_ppb, .inl (c_ppb, 40, .inl (fun _ => 0))), (q_pps, .inl (c_pps, 40, .inl (fun _ => 0)))] := hD
  refine lv_aload_n hx hb d_Plan_init_28 rfl (lv_at hl 0 rfl) ?_
  refine lv_bipush (v := 40) hx hb d_Plan_init_29 (by decide) ?_
  refine va_newa (atype := .int) (n := 40) (ty := .int) (a0 := (40, .inl (fun _ => 0))) (N' := 40) hx hb (hts (.arrayClass .int) (List.mem_cons_of_mem _ m_112)) rfl hK hP hD hS hA (fun _ => rfl) (by decide) (by decide) (show 40 * 4 ≤ 536870912 by omega) (Nat.le_of_ble_eq_true rfl) (Nat.le_of_ble_eq_true rfl) d_Plan_init_31 (fun q_ptb c_ptb H hK hP hD hS => ?_)
  refine W.widen (k := 4) (n := 160) (by omega) (by omega) ?_
  replace hP : va_P D vwCl [(h0, .inr (5, [.ref q_ppi, .ref q_ppb, .ref q_pps, .null, .null, .null, .int 0, .int 0, .int 0, .long 0, .long 0])), (q_ppi, .inl (c_ppi, 40, .inl (fun _ => 0))), (q_ppb, .inl (c_ppb, 40, .inl (fun _ => 0))), (q_pps, .inl (c_pps, 40, .inl (fun _ => 0))), (q_ptb, .inl (c_ptb, 40, .inl (fun _ => 0)))] H := hP
  replace hD : va_D A [(h0, .inr (5, [.ref q_ppi, .ref q_ppb, .ref q_pps, .null, .null, .null, .int 0, .int 0, .int 0, .long 0, .long 0])), (q_ppi, .inl (c_ppi, 40, .inl (fun _ => 0))), (q_ppb, .inl (c_ppb, 40, .inl (fun _ => 0))), (q_pps, .inl (c_pps, 40, .inl (fun _ => 0))), (q_ptb, .inl (c_ptb, 40, .inl (fun _ => 0)))] := hD
  replace hK : va_K D vwCl [(c_ppi, .int), (c_ppb, .int), (c_pps, .int), (c_ptb, .int)] s := hK
  refine va_putF (D := D) (ci := 5) (v := .ref q_ptb) (ty := (.array .int)) (C := R_Plan) (T := F_Plan) (N := 11) hx hb hts hn_Plan t_Plan t_Plan_ok n_Plan hown hK hP hD hS 0 rfl rfl 3 (by decide) hL21 (fun _ h9 => h9) rfl hin rfl (by decide +kernel) rfl rfl (Nat.le_of_ble_eq_true rfl) d_Plan_init_33 (fun H locs hP hD hS => ?_)
  replace hP : va_P D vwCl [(h0, .inr (5, [.ref q_ppi, .ref q_ppb, .ref q_pps, .ref q_ptb, .null, .null, .int 0, .int 0, .int 0, .long 0, .long 0])), (q_ppi, .inl (c_ppi, 40, .inl (fun _ => 0))), (q_ppb, .inl (c_ppb, 40, .inl (fun _ => 0))), (q_pps, .inl (c_pps, 40, .inl (fun _ => 0))), (q_ptb, .inl (c_ptb, 40, .inl (fun _ => 0)))] H := hP
  replace hD : va_D A [(h0, .inr (5, [.ref q_ppi, .ref q_ppb, .ref q_pps, .ref q_ptb, .null, .null, .int 0, .int 0, .int 0, .long 0, .long 0])), (q_ppi, .inl (c_ppi, 40, .inl (fun _ => 0))), (q_ppb, .inl (c_ppb, 40, .inl (fun _ => 0))), (q_pps, .inl (c_pps, 40, .inl (fun _ => 0))), (q_ptb, .inl (c_ptb, 40, .inl (fun _ => 0)))] := hD
  refine lv_aload_n hx hb d_Plan_init_36 rfl (lv_at hl 0 rfl) ?_
  refine lv_bipush (v := 40) hx hb d_Plan_init_37 (by decide) ?_
  refine va_newa (atype := .int) (n := 40) (ty := .int) (a0 := (40, .inl (fun _ => 0))) (N' := 40) hx hb (hts (.arrayClass .int) (List.mem_cons_of_mem _ m_112)) rfl hK hP hD hS hA (fun _ => rfl) (by decide) (by decide) (show 40 * 4 ≤ 536870912 by omega) (Nat.le_of_ble_eq_true rfl) (Nat.le_of_ble_eq_true rfl) d_Plan_init_39 (fun q_pts c_pts H hK hP hD hS => ?_)
  refine W.widen (k := 5) (n := 200) (by omega) (by omega) ?_
  replace hP : va_P D vwCl [(h0, .inr (5, [.ref q_ppi, .ref q_ppb, .ref q_pps, .ref q_ptb, .null, .null, .int 0, .int 0, .int 0, .long 0, .long 0])), (q_ppi, .inl (c_ppi, 40, .inl (fun _ => 0))), (q_ppb, .inl (c_ppb, 40, .inl (fun _ => 0))), (q_pps, .inl (c_pps, 40, .inl (fun _ => 0))), (q_ptb, .inl (c_ptb, 40, .inl (fun _ => 0))), (q_pts, .inl (c_pts, 40, .inl (fun _ => 0)))] H := hP
  replace hD : va_D A [(h0, .inr (5, [.ref q_ppi, .ref q_ppb, .ref q_pps, .ref q_ptb, .null, .null, .int 0, .int 0, .int 0, .long 0, .long 0])), (q_ppi, .inl (c_ppi, 40, .inl (fun _ => 0))), (q_ppb, .inl (c_ppb, 40, .inl (fun _ => 0))), (q_pps, .inl (c_pps, 40, .inl (fun _ => 0))), (q_ptb, .inl (c_ptb, 40, .inl (fun _ => 0))), (q_pts, .inl (c_pts, 40, .inl (fun _ => 0)))] := hD
  replace hK : va_K D vwCl [(c_ppi, .int), (c_ppb, .int), (c_pps, .int), (c_ptb, .int), (c_pts, .int)] s := hK
  refine va_putF (D := D) (ci := 5) (v := .ref q_pts) (ty := (.array .int)) (C := R_Plan) (T := F_Plan) (N := 11) hx hb hts hn_Plan t_Plan t_Plan_ok n_Plan hown hK hP hD hS 0 rfl rfl 4 (by decide) hL24 (fun _ h9 => h9) rfl hin rfl (by decide +kernel) rfl rfl (Nat.le_of_ble_eq_true rfl) d_Plan_init_41 (fun H locs hP hD hS => ?_)
  replace hP : va_P D vwCl [(h0, .inr (5, [.ref q_ppi, .ref q_ppb, .ref q_pps, .ref q_ptb, .ref q_pts, .null, .int 0, .int 0, .int 0, .long 0, .long 0])), (q_ppi, .inl (c_ppi, 40, .inl (fun _ => 0))), (q_ppb, .inl (c_ppb, 40, .inl (fun _ => 0))), (q_pps, .inl (c_pps, 40, .inl (fun _ => 0))), (q_ptb, .inl (c_ptb, 40, .inl (fun _ => 0))), (q_pts, .inl (c_pts, 40, .inl (fun _ => 0)))] H := hP
  replace hD : va_D A [(h0, .inr (5, [.ref q_ppi, .ref q_ppb, .ref q_pps, .ref q_ptb, .ref q_pts, .null, .int 0, .int 0, .int 0, .long 0, .long 0])), (q_ppi, .inl (c_ppi, 40, .inl (fun _ => 0))), (q_ppb, .inl (c_ppb, 40, .inl (fun _ => 0))), (q_pps, .inl (c_pps, 40, .inl (fun _ => 0))), (q_ptb, .inl (c_ptb, 40, .inl (fun _ => 0))), (q_pts, .inl (c_pts, 40, .inl (fun _ => 0)))] := hD
  refine lv_aload_n hx hb d_Plan_init_44 rfl (lv_at hl 0 rfl) ?_
  refine lv_bipush (v := 6) hx hb d_Plan_init_45 (by decide) ?_
  refine va_newa (atype := .int) (n := 6) (ty := .int) (a0 := (6, .inl (fun _ => 0))) (N' := 6) hx hb (hts (.arrayClass .int) (List.mem_cons_of_mem _ m_112)) rfl hK hP hD hS hA (fun _ => rfl) (by decide) (by decide) (show 6 * 4 ≤ 536870912 by omega) (Nat.le_of_ble_eq_true rfl) (Nat.le_of_ble_eq_true rfl) d_Plan_init_47 (fun q_pbo c_pbo H hK hP hD hS => ?_)
  refine W.widen (k := 6) (n := 206) (by omega) (by omega) ?_
  replace hP : va_P D vwCl [(h0, .inr (5, [.ref q_ppi, .ref q_ppb, .ref q_pps, .ref q_ptb, .ref q_pts, .null, .int 0, .int 0, .int 0, .long 0, .long 0])), (q_ppi, .inl (c_ppi, 40, .inl (fun _ => 0))), (q_ppb, .inl (c_ppb, 40, .inl (fun _ => 0))), (q_pps, .inl (c_pps, 40, .inl (fun _ => 0))), (q_ptb, .inl (c_ptb, 40, .inl (fun _ => 0))), (q_pts, .inl (c_pts, 40, .inl (fun _ => 0))), (q_pbo, .inl (c_pbo, 6, .inl (fun _ => 0)))] H := hP
  replace hD : va_D A [(h0, .inr (5, [.ref q_ppi, .ref q_ppb, .ref q_pps, .ref q_ptb, .ref q_pts, .null, .int 0, .int 0, .int 0, .long 0, .long 0])), (q_ppi, .inl (c_ppi, 40, .inl (fun _ => 0))), (q_ppb, .inl (c_ppb, 40, .inl (fun _ => 0))), (q_pps, .inl (c_pps, 40, .inl (fun _ => 0))), (q_ptb, .inl (c_ptb, 40, .inl (fun _ => 0))), (q_pts, .inl (c_pts, 40, .inl (fun _ => 0))), (q_pbo, .inl (c_pbo, 6, .inl (fun _ => 0)))] := hD
  replace hK : va_K D vwCl [(c_ppi, .int), (c_ppb, .int), (c_pps, .int), (c_ptb, .int), (c_pts, .int), (c_pbo, .int)] s := hK
  refine va_putF (D := D) (ci := 5) (v := .ref q_pbo) (ty := (.array .int)) (C := R_Plan) (T := F_Plan) (N := 11) hx hb hts hn_Plan t_Plan t_Plan_ok n_Plan hown hK hP hD hS 0 rfl rfl 5 (by decide) hL27 (fun _ h9 => h9) rfl hin rfl (by decide +kernel) rfl rfl (Nat.le_of_ble_eq_true rfl) d_Plan_init_49 (fun H locs hP hD hS => ?_)
  replace hP : va_P D vwCl [(h0, .inr (5, [.ref q_ppi, .ref q_ppb, .ref q_pps, .ref q_ptb, .ref q_pts, .ref q_pbo, .int 0, .int 0, .int 0, .long 0, .long 0])), (q_ppi, .inl (c_ppi, 40, .inl (fun _ => 0))), (q_ppb, .inl (c_ppb, 40, .inl (fun _ => 0))), (q_pps, .inl (c_pps, 40, .inl (fun _ => 0))), (q_ptb, .inl (c_ptb, 40, .inl (fun _ => 0))), (q_pts, .inl (c_pts, 40, .inl (fun _ => 0))), (q_pbo, .inl (c_pbo, 6, .inl (fun _ => 0)))] H := hP
  replace hD : va_D A [(h0, .inr (5, [.ref q_ppi, .ref q_ppb, .ref q_pps, .ref q_ptb, .ref q_pts, .ref q_pbo, .int 0, .int 0, .int 0, .long 0, .long 0])), (q_ppi, .inl (c_ppi, 40, .inl (fun _ => 0))), (q_ppb, .inl (c_ppb, 40, .inl (fun _ => 0))), (q_pps, .inl (c_pps, 40, .inl (fun _ => 0))), (q_ptb, .inl (c_ptb, 40, .inl (fun _ => 0))), (q_pts, .inl (c_pts, 40, .inl (fun _ => 0))), (q_pbo, .inl (c_pbo, 6, .inl (fun _ => 0)))] := hD
  exact W.vret hx hb hr (fun t ht hW => ⟨⟨(), rfl, trivial, q_ppi, q_ppb, q_pps, q_ptb, q_pts, q_pbo, c_ppi, c_ppb, c_pps, c_ptb, c_pts, c_pbo, by rw [ht]; exact hP, va_K.moved hW.alike hK, hD⟩, hS.F ht⟩) hS.2.2 d_Plan_init_52
