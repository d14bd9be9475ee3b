theorem q_tl9 (S : Nat) : (nI S + 1) * 64 * 8 = nI ((S + 1) * 64 * 8) := by rw [nI_1, show (64 : Int32) = nI 64 from rfl, show (8 : Int32) = nI 8 from rfl, pk_mul, pk_mul]
set_option maxRecDepth 100000 in
set_option maxHeartbeats 4000000 in
theorem cc_Wall_init (l : Launch) (D : va_G) (ki : Nat → ClassId) (h0 : Nat) (p1 : Int32) (S : Nat) (hS9 : S ≤ 40) (hp : p1 = nI S) (sz : Nat) : Met l y_Wall_init w_Wall_init { frames := 1, cells := 2, slots := 48, locals := 12 } (q_PcM [.ref h0, .int p1] D vwCl [(h0, .inr (1, [.int 0, .null, .null, .int 0]))] (TYS ki) sz) (va_Qv (fun _ : Unit => True) (fun (_ : Unit) (t : State) => ∃ (q_wfree q_wpip : Nat), va_P D vwCl [(h0, .inr (1, [.int p1, .ref q_wfree, .ref q_wpip, .int 0])), (q_wfree, .inl (ki 2, S, .inl (fun _ => 0))), (q_wpip, .inl (ki 0, 8, .inl (fun _ => 0)))] t.heap ∧ va_D (va_A [(h0, .inr (1, [.int 0, .null, .null, .int 0]))] sz) [(h0, .inr (1, [.int p1, .ref q_wfree, .ref q_wpip, .int 0])), (q_wfree, .inl (ki 2, S, .inl (fun _ => 0))), (q_wpip, .inl (ki 0, 8, .inl (fun _ => 0)))]) (va_A [(h0, .inr (1, [.int 0, .null, .null, .int 0]))] sz)) 2 48 (va_A [(h0, .inr (1, [.int 0, .null, .null, .int 0]))] sz) := by
  refine Met.ofW (cc := b_Wall_init) (maxL := 2) (ret := none) (by decide) rfl ?_
  intro p e s m args below meth c s₁ B hml hv
  obtain ⟨rfl, hsz, hP, hK, hD0, hE⟩ := hv
  have hx := B.exec
  have hb := B.bytes
  have hr := B.returns
  have hts := atoms_spec (ws := w_Wall_init) B.pre
  have hown : s.vm.findClass R_Wall = some m.cls := findClass_of_methodNamed B.named
  have hlocks := B.notSynchronized
  have hin : meth.name = "<init>" := (name_of_methodNamed B.named B.method).1
  have hn_Wall : ∀ w ∈ u_ws R_Wall F_Wall 4, w ∈ w_Wall_init := (fun w h => List.mem_cons_of_mem _ (i_Wall w h))
  have hL9 := hts (.fieldLink R_Wall 9 "RoomFills$Wall" "steps" "I") (List.mem_cons_of_mem _ m_92)
  have hL15 := hts (.fieldLink R_Wall 15 "RoomFills$Wall" "free" "[Z") (List.mem_cons_of_mem _ m_97)
  have hL19 := hts (.fieldLink R_Wall 19 "RoomFills$Wall" "pipes" "[I") (List.mem_cons_of_mem _ m_100)
  have hL23 := hts (.fieldLink R_Wall 23 "RoomFills$Wall" "pipeCount" "I") (List.mem_cons_of_mem _ m_101)
  subst hsz
  have hD := hD0.self (sz := s.heap.size)
  generalize hAe : va_A [(h0, .inr (1, [.int 0, .null, .null, .int 0]))] s.heap.size = A at hD ⊢
  have hA : ∀ q : Nat, s.heap.size ≤ q → A q := fun q h => by rw [← hAe]; exact Or.inr h
  have hS : va_S A s.heap s.heap [] := va_S.rf
  replace hP : va_P D vwCl [(h0, .inr (1, [.int 0, .null, .null, .int 0]))] s.heap := hP
  have hl := lv_entry ([.ref h0, .int p1]) (n := 2) (Nat.le_of_ble_eq_true rfl)
  rw [lg_entry_eq]
  generalize (lg_sl ([.ref h0, .int p1]) ++ List.replicate (2 - (lg_sl ([.ref h0, .int p1])).length) Slot.unset).toArray = ls at hl ⊢
  replace hl : lv_has ls 2 [(0, .ref h0), (1, .int p1)] := hl
  refine lv_aload_n hx hb d_Wall_init_0 rfl (lv_at hl 0 rfl) ?_
  refine W.objInit hx hb hown (hts (.methodLink R_Wall 3 objectInit) (List.mem_cons_of_mem _ m_91)) (hts (.instanceMethod objectInit) (List.mem_cons_of_mem _ m_78)) (hts _ (List.mem_cons_of_mem _ m_79)) rfl (by rw [hml]; exact hl.1) rfl d_Wall_init_1 (Nat.le_of_ble_eq_true rfl) (Nat.le_of_ble_eq_true rfl) ?_
  refine W.eq (g2 := F0 m 4 ls []) rfl ?_
  refine lv_aload_n hx hb d_Wall_init_4 rfl (lv_at hl 0 rfl) ?_
  refine lv_iload_n hx hb d_Wall_init_5 rfl (lv_at hl 1 rfl) ?_
  refine va_putF (D := D) (ci := 1) (v := .int p1) (ty := .int) (C := R_Wall) (T := F_Wall) (N := 4) hx hb hts hn_Wall t_Wall t_Wall_ok n_Wall hown hK hP hD hS 0 rfl rfl 0 (by decide) hL9 (fun _ h9 => h9) rfl hin rfl (by decide +kernel) rfl rfl (Nat.le_of_ble_eq_true rfl) d_Wall_init_6 (fun H locs hP hD hS => ?_)
  replace hP : va_P D vwCl [(h0, .inr (1, [.int p1, .null, .null, .int 0]))] H := hP
  replace hD : va_D A [(h0, .inr (1, [.int p1, .null, .null, .int 0]))] := hD
  refine lv_aload_n hx hb d_Wall_init_9 rfl (lv_at hl 0 rfl) ?_
  refine lv_iload_n hx hb d_Wall_init_10 rfl (lv_at hl 1 rfl) ?_
  refine q_newa (atype := .boolean) (n := p1) (ty := .boolean) (a0 := (S, .inl (fun _ => 0))) (N' := S) hx hb (hts (.arrayClass .boolean) (List.mem_cons_of_mem _ m_111)) rfl hK 2 rfl hP hD hS hA (fun _ => rfl) (by rw [hp]; exact nI_pos (by omega)) (by rw [hp]; exact nI_clamp (by omega)) (show S * 1 ≤ 536870912 by omega) (Nat.le_of_ble_eq_true rfl) (Nat.le_trans (Nat.add_le_add_left hS9 _) (Nat.le_of_ble_eq_true rfl)) d_Wall_init_11 (fun q_wfree H hP hD hS => ?_)
  refine W.widen (k := 1) (n := 40) (by omega) (by omega) ?_
  replace hP : va_P D vwCl [(h0, .inr (1, [.int p1, .null, .null, .int 0])), (q_wfree, .inl (ki 2, S, .inl (fun _ => 0)))] H := hP
  replace hD : va_D A [(h0, .inr (1, [.int p1, .null, .null, .int 0])), (q_wfree, .inl (ki 2, S, .inl (fun _ => 0)))] := hD
  refine va_putF (D := D) (ci := 1) (v := .ref q_wfree) (ty := (.array .boolean)) (C := R_Wall) (T := F_Wall) (N := 4) hx hb hts hn_Wall t_Wall t_Wall_ok n_Wall hown hK hP hD hS 0 rfl rfl 1 (by decide) hL15 (fun _ h9 => h9) rfl hin rfl (by decide +kernel) rfl rfl (Nat.le_of_ble_eq_true rfl) d_Wall_init_13 (fun H locs hP hD hS => ?_)
  replace hP : va_P D vwCl [(h0, .inr (1, [.int p1, .ref q_wfree, .null, .int 0])), (q_wfree, .inl (ki 2, S, .inl (fun _ => 0)))] H := hP
  replace hD : va_D A [(h0, .inr (1, [.int p1, .ref q_wfree, .null, .int 0])), (q_wfree, .inl (ki 2, S, .inl (fun _ => 0)))] := hD
  refine lv_aload_n hx hb d_Wall_init_16 rfl (lv_at hl 0 rfl) ?_
  refine lv_bipush (v := 8) hx hb d_Wall_init_17 (by decide) ?_
  refine q_newa (atype := .int) (n := 8) (ty := .int) (a0 := (8, .inl (fun _ => 0))) (N' := 8) hx hb (hts (.arrayClass .int) (List.mem_cons_of_mem _ m_112)) rfl hK 0 rfl hP hD hS hA (fun _ => rfl) (by decide) (by decide) (show 8 * 4 ≤ 536870912 by omega) (Nat.le_of_ble_eq_true rfl) (Nat.le_of_ble_eq_true rfl) d_Wall_init_19 (fun q_wpip H hP hD hS => ?_)
  refine W.widen (k := 2) (n := 48) (by omega) (by omega) ?_
  replace hP : va_P D vwCl [(h0, .inr (1, [.int p1, .ref q_wfree, .null, .int 0])), (q_wfree, .inl (ki 2, S, .inl (fun _ => 0))), (q_wpip, .inl (ki 0, 8, .inl (fun _ => 0)))] H := hP
  replace hD : va_D A [(h0, .inr (1, [.int p1, .ref q_wfree, .null, .int 0])), (q_wfree, .inl (ki 2, S, .inl (fun _ => 0))), (q_wpip, .inl (ki 0, 8, .inl (fun _ => 0)))] := hD
  refine va_putF (D := D) (ci := 1) (v := .ref q_wpip) (ty := (.array .int)) (C := R_Wall) (T := F_Wall) (N := 4) hx hb hts hn_Wall t_Wall t_Wall_ok n_Wall hown hK hP hD hS 0 rfl rfl 2 (by decide) hL19 (fun _ h9 => h9) rfl hin rfl (by decide +kernel) rfl rfl (Nat.le_of_ble_eq_true rfl) d_Wall_init_21 (fun H locs hP hD hS => ?_)
  replace hP : va_P D vwCl [(h0, .inr (1, [.int p1, .ref q_wfree, .ref q_wpip, .int 0])), (q_wfree, .inl (ki 2, S, .inl (fun _ => 0))), (q_wpip, .inl (ki 0, 8, .inl (fun _ => 0)))] H := hP
  replace hD : va_D A [(h0, .inr (1, [.int p1, .ref q_wfree, .ref q_wpip, .int 0])), (q_wfree, .inl (ki 2, S, .inl (fun _ => 0))), (q_wpip, .inl (ki 0, 8, .inl (fun _ => 0)))] := hD
  refine lv_aload_n hx hb d_Wall_init_24 rfl (lv_at hl 0 rfl) ?_
  refine lv_iconst (v := 0) hx hb d_Wall_init_25 (by decide) ?_
  refine va_put (D := D) (ci := 1) (v := .int 0) (ty := .int) (C := R_Wall) (T := F_Wall) (N := 4) hx hb hts hn_Wall t_Wall t_Wall_ok n_Wall hown hK hP hD hS 0 rfl rfl 3 (by decide) hL23 (fun _ h9 => h9) rfl (by decide +kernel) rfl rfl (Nat.le_of_ble_eq_true rfl) d_Wall_init_26 (fun H locs hP hD hS => ?_)
  replace hP : va_P D vwCl [(h0, .inr (1, [.int p1, .ref q_wfree, .ref q_wpip, .int 0])), (q_wfree, .inl (ki 2, S, .inl (fun _ => 0))), (q_wpip, .inl (ki 0, 8, .inl (fun _ => 0)))] H := hP
  replace hD : va_D A [(h0, .inr (1, [.int p1, .ref q_wfree, .ref q_wpip, .int 0])), (q_wfree, .inl (ki 2, S, .inl (fun _ => 0))), (q_wpip, .inl (ki 0, 8, .inl (fun _ => 0)))] := hD
  exact W.vret hx hb hr (fun t ht hW => ⟨⟨(), rfl, trivial, q_wfree, q_wpip, by rw [ht]; exact hP, hD⟩, hS.F ht⟩) hS.2.2 d_Wall_init_29
set_option maxRecDepth 100000 in
set_option maxHeartbeats 4000000 in
theorem cc_Items_init (l : Launch) (D : va_G) (ki : Nat → ClassId) (h0 : Nat)  (sz : Nat) : Met l y_Items_init w_Items_init { frames := 1, cells := 7, slots := 276, locals := 12 } (q_PcM [.ref h0] D vwCl [(h0, .inr (2, [.null, .null, .null, .null, .null, .null, .null, .int 0, .int 0]))] (TYS ki) sz) (va_Qv (fun _ : Unit => True) (fun (_ : Unit) (t : State) => ∃ (q_iwid q_inee q_ibar q_inea q_iswi q_iswo q_isce : Nat), va_P D vwCl [(h0, .inr (2, [.ref q_iwid, .ref q_inee, .ref q_ibar, .ref q_inea, .ref q_iswi, .ref q_iswo, .ref q_isce, .int 0, .int 0])), (q_iwid, .inl (ki 0, 6, .inl (fun _ => 0))), (q_inee, .inl (ki 0, 6, .inl (fun _ => 0))), (q_ibar, .inl (ki 0, 8, .inl (fun _ => 0))), (q_inea, .inl (ki 1, 64, .inr (.inl (fun _ => 0)))), (q_iswi, .inl (ki 0, 64, .inl (fun _ => 0))), (q_iswo, .inl (ki 1, 64, .inr (.inl (fun _ => 0)))), (q_isce, .inl (ki 1, 64, .inr (.inl (fun _ => 0))))] t.heap ∧ va_D (va_A [(h0, .inr (2, [.null, .null, .null, .null, .null, .null, .null, .int 0, .int 0]))] sz) [(h0, .inr (2, [.ref q_iwid, .ref q_inee, .ref q_ibar, .ref q_inea, .ref q_iswi, .ref q_iswo, .ref q_isce, .int 0, .int 0])), (q_iwid, .inl (ki 0, 6, .inl (fun _ => 0))), (q_inee, .inl (ki 0, 6, .inl (fun _ => 0))), (q_ibar, .inl (ki 0, 8, .inl (fun _ => 0))), (q_inea, .inl (ki 1, 64, .inr (.inl (fun _ => 0)))), (q_iswi, .inl (ki 0, 64, .inl (fun _ => 0))), (q_iswo, .inl (ki 1, 64, .inr (.inl (fun _ => 0)))), (q_isce, .inl (ki 1, 64, .inr (.inl (fun _ => 0))))]) (va_A [(h0, .inr (2, [.null, .null, .null, .null, .null, .null, .null, .int 0, .int 0]))] sz)) 7 276 (va_A [(h0, .inr (2, [.null, .null, .null, .null, .null, .null, .null, .int 0, .int 0]))] sz) := by
  refine Met.ofW (cc := b_Items_init) (maxL := 1) (ret := none) (by decide) rfl ?_
  intro p e s m args below meth c s₁ B hml hv
  obtain ⟨rfl, hsz, hP, hK, hD0, hE⟩ := hv
  have hx := B.exec
  have hb := B.bytes
  have hr := B.returns
  have hts := atoms_spec (ws := w_Items_init) B.pre
  have hown : s.vm.findClass R_Items = some m.cls := findClass_of_methodNamed B.named
  have hlocks := B.notSynchronized
  have hin : meth.name = "<init>" := (name_of_methodNamed B.named B.method).1
  have hn_Items : ∀ w ∈ u_ws R_Items F_Items 9, w ∈ w_Items_init := (fun w h => List.mem_cons_of_mem _ (i_Items w h))
  have hL9 := hts (.fieldLink R_Items 9 "RoomFills$Items" "width" "[I") (List.mem_cons_of_mem _ m_119)
  have hL15 := hts (.fieldLink R_Items 15 "RoomFills$Items" "needMost" "[I") (List.mem_cons_of_mem _ m_123)
  have hL18 := hts (.fieldLink R_Items 18 "RoomFills$Items" "barredSet" "[I") (List.mem_cons_of_mem _ m_124)
  have hL21 := hts (.fieldLink R_Items 21 "RoomFills$Items" "nearWorth" "[J") (List.mem_cons_of_mem _ m_126)
  have hL25 := hts (.fieldLink R_Items 25 "RoomFills$Items" "setWidth" "[I") (List.mem_cons_of_mem _ m_128)
  have hL28 := hts (.fieldLink R_Items 28 "RoomFills$Items" "setWorth" "[J") (List.mem_cons_of_mem _ m_130)
  have hL31 := hts (.fieldLink R_Items 31 "RoomFills$Items" "setCents" "[J") (List.mem_cons_of_mem _ m_133)
  have hL34 := hts (.fieldLink R_Items 34 "RoomFills$Items" "mustSet" "I") (List.mem_cons_of_mem _ m_135)
  have hL38 := hts (.fieldLink R_Items 38 "RoomFills$Items" "count" "I") (List.mem_cons_of_mem _ m_138)
  subst hsz
  have hD := hD0.self (sz := s.heap.size)
  generalize hAe : va_A [(h0, .inr (2, [.null, .null, .null, .null, .null, .null, .null, .int 0, .int 0]))] s.heap.size = A at hD ⊢
  have hA : ∀ q : Nat, s.heap.size ≤ q → A q := fun q h => by rw [← hAe]; exact Or.inr h
  have hS : va_S A s.heap s.heap [] := va_S.rf
  replace hP : va_P D vwCl [(h0, .inr (2, [.null, .null, .null, .null, .null, .null, .null, .int 0, .int 0]))] s.heap := hP
  have hl := lv_entry ([.ref h0]) (n := 1) (Nat.le_of_ble_eq_true rfl)
  rw [lg_entry_eq]
  generalize (lg_sl ([.ref h0]) ++ List.replicate (1 - (lg_sl ([.ref h0])).length) Slot.unset).toArray = ls at hl ⊢
  replace hl : lv_has ls 1 [(0, .ref h0)] := hl
  refine lv_aload_n hx hb d_Items_init_0 rfl (lv_at hl 0 rfl) ?_
  refine W.objInit hx hb hown (hts (.methodLink R_Items 3 objectInit) (List.mem_cons_of_mem _ m_118)) (hts (.instanceMethod objectInit) (List.mem_cons_of_mem _ m_78)) (hts _ (List.mem_cons_of_mem _ m_79)) rfl (by rw [hml]; exact hl.1) rfl d_Items_init_1 (Nat.le_of_ble_eq_true rfl) (Nat.le_of_ble_eq_true rfl) ?_
  refine W.eq (g2 := F0 m 4 ls []) rfl ?_
  refine lv_aload_n hx hb d_Items_init_4 rfl (lv_at hl 0 rfl) ?_
  refine lv_bipush (v := 6) hx hb d_Items_init_5 (by decide) ?_
  refine q_newa (atype := .int) (n := 6) (ty := .int) (a0 := (6, .inl (fun _ => 0))) (N' := 6) hx hb (hts (.arrayClass .int) (List.mem_cons_of_mem _ m_112)) rfl hK 0 rfl hP hD hS hA (fun _ => rfl) (by decide) (by decide) (show 6 * 4 ≤ 536870912 by omega) (Nat.le_of_ble_eq_true rfl) (Nat.le_of_ble_eq_true rfl) d_Items_init_7 (fun q_iwid H hP hD hS => ?_)
  refine W.widen (k := 1) (n := 6) (by omega) (by omega) ?_
  replace hP : va_P D vwCl [(h0, .inr (2, [.null, .null, .null, .null, .null, .null, .null, .int 0, .int 0])), (q_iwid, .inl (ki 0, 6, .inl (fun _ => 0)))] H := hP
  replace hD : va_D A [(h0, .inr (2, [.null, .null, .null, .null, .null, .null, .null, .int 0, .int 0])), (q_iwid, .inl (ki 0, 6, .inl (fun _ => 0)))] := hD
  refine va_putF (D := D) (ci := 2) (v := .ref q_iwid) (ty := (.array .int)) (C := R_Items) (T := F_Items) (N := 9) hx hb hts hn_Items t_Items t_Items_ok n_Items hown hK hP hD hS 0 rfl rfl 0 (by decide) hL9 (fun _ h9 => h9) rfl hin rfl (by decide +kernel) rfl rfl (Nat.le_of_ble_eq_true rfl) d_Items_init_9 (fun H locs hP hD hS => ?_)
  replace hP : va_P D vwCl [(h0, .inr (2, [.ref q_iwid, .null, .null, .null, .null, .null, .null, .int 0, .int 0])), (q_iwid, .inl (ki 0, 6, .inl (fun _ => 0)))] H := hP
  replace hD : va_D A [(h0, .inr (2, [.ref q_iwid, .null, .null, .null, .null, .null, .null, .int 0, .int 0])), (q_iwid, .inl (ki 0, 6, .inl (fun _ => 0)))] := hD
  refine lv_aload_n hx hb d_Items_init_12 rfl (lv_at hl 0 rfl) ?_
  refine lv_bipush (v := 6) hx hb d_Items_init_13 (by decide) ?_
  refine q_newa (atype := .int) (n := 6) (ty := .int) (a0 := (6, .inl (fun _ => 0))) (N' := 6) hx hb (hts (.arrayClass .int) (List.mem_cons_of_mem _ m_112)) rfl hK 0 rfl hP hD hS hA (fun _ => rfl) (by decide) (by decide) (show 6 * 4 ≤ 536870912 by omega) (Nat.le_of_ble_eq_true rfl) (Nat.le_of_ble_eq_true rfl) d_Items_init_15 (fun q_inee H hP hD hS => ?_)
  refine W.widen (k := 2) (n := 12) (by omega) (by omega) ?_
  replace hP : va_P D vwCl [(h0, .inr (2, [.ref q_iwid, .null, .null, .null, .null, .null, .null, .int 0, .int 0])), (q_iwid, .inl (ki 0, 6, .inl (fun _ => 0))), (q_inee, .inl (ki 0, 6, .inl (fun _ => 0)))] H := hP
  replace hD : va_D A [(h0, .inr (2, [.ref q_iwid, .null, .null, .null, .null, .null, .null, .int 0, .int 0])), (q_iwid, .inl (ki 0, 6, .inl (fun _ => 0))), (q_inee, .inl (ki 0, 6, .inl (fun _ => 0)))] := hD
  refine va_putF (D := D) (ci := 2) (v := .ref q_inee) (ty := (.array .int)) (C := R_Items) (T := F_Items) (N := 9) hx hb hts hn_Items t_Items t_Items_ok n_Items hown hK hP hD hS 0 rfl rfl 1 (by decide) hL15 (fun _ h9 => h9) rfl hin rfl (by decide +kernel) rfl rfl (Nat.le_of_ble_eq_true rfl) d_Items_init_17 (fun H locs hP hD hS => ?_)
  replace hP : va_P D vwCl [(h0, .inr (2, [.ref q_iwid, .ref q_inee, .null, .null, .null, .null, .null, .int 0, .int 0])), (q_iwid, .inl (ki 0, 6, .inl (fun _ => 0))), (q_inee, .inl (ki 0, 6, .inl (fun _ => 0)))] H := hP
  replace hD : va_D A [(h0, .inr (2, [.ref q_iwid, .ref q_inee, .null, .null, .null, .null, .null, .int 0, .int 0])), (q_iwid, .inl (ki 0, 6, .inl (fun _ => 0))), (q_inee, .inl (ki 0, 6, .inl (fun _ => 0)))] := hD
  refine lv_aload_n hx hb d_Items_init_20 rfl (lv_at hl 0 rfl) ?_
  refine lv_bipush (v := 8) hx hb d_Items_init_21 (by decide) ?_
  refine q_newa (atype := .int) (n := 8) (ty := .int) (a0 := (8, .inl (fun _ => 0))) (N' := 8) hx hb (hts (.arrayClass .int) (List.mem_cons_of_mem _ m_112)) rfl hK 0 rfl hP hD hS hA (fun _ => rfl) (by decide) (by decide) (show 8 * 4 ≤ 536870912 by omega) (Nat.le_of_ble_eq_true rfl) (Nat.le_of_ble_eq_true rfl) d_Items_init_23 (fun q_ibar H hP hD hS => ?_)
  refine W.widen (k := 3) (n := 20) (by omega) (by omega) ?_
  replace hP : va_P D vwCl [(h0, .inr (2, [.ref q_iwid, .ref q_inee, .null, .null, .null, .null, .null, .int 0, .int 0])), (q_iwid, .inl (ki 0, 6, .inl (fun _ => 0))), (q_inee, .inl (ki 0, 6, .inl (fun _ => 0))), (q_ibar, .inl (ki 0, 8, .inl (fun _ => 0)))] H := hP
  replace hD : va_D A [(h0, .inr (2, [.ref q_iwid, .ref q_inee, .null, .null, .null, .null, .null, .int 0, .int 0])), (q_iwid, .inl (ki 0, 6, .inl (fun _ => 0))), (q_inee, .inl (ki 0, 6, .inl (fun _ => 0))), (q_ibar, .inl (ki 0, 8, .inl (fun _ => 0)))] := hD
  refine va_putF (D := D) (ci := 2) (v := .ref q_ibar) (ty := (.array .int)) (C := R_Items) (T := F_Items) (N := 9) hx hb hts hn_Items t_Items t_Items_ok n_Items hown hK hP hD hS 0 rfl rfl 2 (by decide) hL18 (fun _ h9 => h9) rfl hin rfl (by decide +kernel) rfl rfl (Nat.le_of_ble_eq_true rfl) d_Items_init_25 (fun H locs hP hD hS => ?_)
  replace hP : va_P D vwCl [(h0, .inr (2, [.ref q_iwid, .ref q_inee, .ref q_ibar, .null, .null, .null, .null, .int 0, .int 0])), (q_iwid, .inl (ki 0, 6, .inl (fun _ => 0))), (q_inee, .inl (ki 0, 6, .inl (fun _ => 0))), (q_ibar, .inl (ki 0, 8, .inl (fun _ => 0)))] H := hP
  replace hD : va_D A [(h0, .inr (2, [.ref q_iwid, .ref q_inee, .ref q_ibar, .null, .null, .null, .null, .int 0, .int 0])), (q_iwid, .inl (ki 0, 6, .inl (fun _ => 0))), (q_inee, .inl (ki 0, 6, .inl (fun _ => 0))), (q_ibar, .inl (ki 0, 8, .inl (fun _ => 0)))] := hD
  refine lv_aload_n hx hb d_Items_init_28 rfl (lv_at hl 0 rfl) ?_
  refine lv_bipush (v := 64) hx hb d_Items_init_29 (by decide) ?_
  refine q_newa (atype := .long) (n := 64) (ty := .long) (a0 := (64, .inr (.inl (fun _ => 0)))) (N' := 64) hx hb (hts (.arrayClass .long) (List.mem_cons_of_mem _ m_162)) rfl hK 1 rfl hP hD hS hA (fun _ => rfl) (by decide) (by decide) (show 64 * 8 ≤ 536870912 by omega) (Nat.le_of_ble_eq_true rfl) (Nat.le_of_ble_eq_true rfl) d_Items_init_31 (fun q_inea H hP hD hS => ?_)
  refine W.widen (k := 4) (n := 84) (by omega) (by omega) ?_
  replace hP : va_P D vwCl [(h0, .inr (2, [.ref q_iwid, .ref q_inee, .ref q_ibar, .null, .null, .null, .null, .int 0, .int 0])), (q_iwid, .inl (ki 0, 6, .inl (fun _ => 0))), (q_inee, .inl (ki 0, 6, .inl (fun _ => 0))), (q_ibar, .inl (ki 0, 8, .inl (fun _ => 0))), (q_inea, .inl (ki 1, 64, .inr (.inl (fun _ => 0))))] H := hP
  replace hD : va_D A [(h0, .inr (2, [.ref q_iwid, .ref q_inee, .ref q_ibar, .null, .null, .null, .null, .int 0, .int 0])), (q_iwid, .inl (ki 0, 6, .inl (fun _ => 0))), (q_inee, .inl (ki 0, 6, .inl (fun _ => 0))), (q_ibar, .inl (ki 0, 8, .inl (fun _ => 0))), (q_inea, .inl (ki 1, 64, .inr (.inl (fun _ => 0))))] := hD
  refine va_putF (D := D) (ci := 2) (v := .ref q_inea) (ty := (.array .long)) (C := R_Items) (T := F_Items) (N := 9) hx hb hts hn_Items t_Items t_Items_ok n_Items hown hK hP hD hS 0 rfl rfl 3 (by decide) hL21 (fun _ h9 => h9) rfl hin rfl (by decide +kernel) rfl rfl (Nat.le_of_ble_eq_true rfl) d_Items_init_33 (fun H locs hP hD hS => ?_)
  replace hP : va_P D vwCl [(h0, .inr (2, [.ref q_iwid, .ref q_inee, .ref q_ibar, .ref q_inea, .null, .null, .null, .int 0, .int 0])), (q_iwid, .inl (ki 0, 6, .inl (fun _ => 0))), (q_inee, .inl (ki 0, 6, .inl (fun _ => 0))), (q_ibar, .inl (ki 0, 8, .inl (fun _ => 0))), (q_inea, .inl (ki 1, 64, .inr (.inl (fun _ => 0))))] H := hP
  replace hD : va_D A [(h0, .inr (2, [.ref q_iwid, .ref q_inee, .ref q_ibar, .ref q_inea, .null, .null, .null, .int 0, .int 0])), (q_iwid, .inl (ki 0, 6, .inl (fun _ => 0))), (q_inee, .inl (ki 0, 6, .inl (fun _ => 0))), (q_ibar, .inl (ki 0, 8, .inl (fun _ => 0))), (q_inea, .inl (ki 1, 64, .inr (.inl (fun _ => 0))))] := hD
  refine lv_aload_n hx hb d_Items_init_36 rfl (lv_at hl 0 rfl) ?_
  refine lv_bipush (v := 64) hx hb d_Items_init_37 (by decide) ?_
  refine q_newa (atype := .int) (n := 64) (ty := .int) (a0 := (64, .inl (fun _ => 0))) (N' := 64) hx hb (hts (.arrayClass .int) (List.mem_cons_of_mem _ m_112)) rfl hK 0 rfl hP hD hS hA (fun _ => rfl) (by decide) (by decide) (show 64 * 4 ≤ 536870912 by omega) (Nat.le_of_ble_eq_true rfl) (Nat.le_of_ble_eq_true rfl) d_Items_init_39 (fun q_iswi H hP hD hS => ?_)
  refine W.widen (k := 5) (n := 148) (by omega) (by omega) ?_
  replace hP : va_P D vwCl [(h0, .inr (2, [.ref q_iwid, .ref q_inee, .ref q_ibar, .ref q_inea, .null, .null, .null, .int 0, .int 0])), (q_iwid, .inl (ki 0, 6, .inl (fun _ => 0))), (q_inee, .inl (ki 0, 6, .inl (fun _ => 0))), (q_ibar, .inl (ki 0, 8, .inl (fun _ => 0))), (q_inea, .inl (ki 1, 64, .inr (.inl (fun _ => 0)))), (q_iswi, .inl (ki 0, 64, .inl (fun _ => 0)))] H := hP
  replace hD : va_D A [(h0, .inr (2, [.ref q_iwid, .ref q_inee, .ref q_ibar, .ref q_inea, .null, .null, .null, .int 0, .int 0])), (q_iwid, .inl (ki 0, 6, .inl (fun _ => 0))), (q_inee, .inl (ki 0, 6, .inl (fun _ => 0))), (q_ibar, .inl (ki 0, 8, .inl (fun _ => 0))), (q_inea, .inl (ki 1, 64, .inr (.inl (fun _ => 0)))), (q_iswi, .inl (ki 0, 64, .inl (fun _ => 0)))] := hD
  refine va_putF (D := D) (ci := 2) (v := .ref q_iswi) (ty := (.array .int)) (C := R_Items) (T := F_Items) (N := 9) hx hb hts hn_Items t_Items t_Items_ok n_Items hown hK hP hD hS 0 rfl rfl 4 (by decide) hL25 (fun _ h9 => h9) rfl hin rfl (by decide +kernel) rfl rfl (Nat.le_of_ble_eq_true rfl) d_Items_init_41 (fun H locs hP hD hS => ?_)
  replace hP : va_P D vwCl [(h0, .inr (2, [.ref q_iwid, .ref q_inee, .ref q_ibar, .ref q_inea, .ref q_iswi, .null, .null, .int 0, .int 0])), (q_iwid, .inl (ki 0, 6, .inl (fun _ => 0))), (q_inee, .inl (ki 0, 6, .inl (fun _ => 0))), (q_ibar, .inl (ki 0, 8, .inl (fun _ => 0))), (q_inea, .inl (ki 1, 64, .inr (.inl (fun _ => 0)))), (q_iswi, .inl (ki 0, 64, .inl (fun _ => 0)))] H := hP
  replace hD : va_D A [(h0, .inr (2, [.ref q_iwid, .ref q_inee, .ref q_ibar, .ref q_inea, .ref q_iswi, .null, .null, .int 0, .int 0])), (q_iwid, .inl (ki 0, 6, .inl (fun _ => 0))), (q_inee, .inl (ki 0, 6, .inl (fun _ => 0))), (q_ibar, .inl (ki 0, 8, .inl (fun _ => 0))), (q_inea, .inl (ki 1, 64, .inr (.inl (fun _ => 0)))), (q_iswi, .inl (ki 0, 64, .inl (fun _ => 0)))] := hD
  refine lv_aload_n hx hb d_Items_init_44 rfl (lv_at hl 0 rfl) ?_
  refine lv_bipush (v := 64) hx hb d_Items_init_45 (by decide) ?_
  refine q_newa (atype := .long) (n := 64) (ty := .long) (a0 := (64, .inr (.inl (fun _ => 0)))) (N' := 64) hx hb (hts (.arrayClass .long) (List.mem_cons_of_mem _ m_162)) rfl hK 1 rfl hP hD hS hA (fun _ => rfl) (by decide) (by decide) (show 64 * 8 ≤ 536870912 by omega) (Nat.le_of_ble_eq_true rfl) (Nat.le_of_ble_eq_true rfl) d_Items_init_47 (fun q_iswo H hP hD hS => ?_)
  refine W.widen (k := 6) (n := 212) (by omega) (by omega) ?_
  replace hP : va_P D vwCl [(h0, .inr (2, [.ref q_iwid, .ref q_inee, .ref q_ibar, .ref q_inea, .ref q_iswi, .null, .null, .int 0, .int 0])), (q_iwid, .inl (ki 0, 6, .inl (fun _ => 0))), (q_inee, .inl (ki 0, 6, .inl (fun _ => 0))), (q_ibar, .inl (ki 0, 8, .inl (fun _ => 0))), (q_inea, .inl (ki 1, 64, .inr (.inl (fun _ => 0)))), (q_iswi, .inl (ki 0, 64, .inl (fun _ => 0))), (q_iswo, .inl (ki 1, 64, .inr (.inl (fun _ => 0))))] H := hP
  replace hD : va_D A [(h0, .inr (2, [.ref q_iwid, .ref q_inee, .ref q_ibar, .ref q_inea, .ref q_iswi, .null, .null, .int 0, .int 0])), (q_iwid, .inl (ki 0, 6, .inl (fun _ => 0))), (q_inee, .inl (ki 0, 6, .inl (fun _ => 0))), (q_ibar, .inl (ki 0, 8, .inl (fun _ => 0))), (q_inea, .inl (ki 1, 64, .inr (.inl (fun _ => 0)))), (q_iswi, .inl (ki 0, 64, .inl (fun _ => 0))), (q_iswo, .inl (ki 1, 64, .inr (.inl (fun _ => 0))))] := hD
  refine va_putF (D := D) (ci := 2) (v := .ref q_iswo) (ty := (.array .long)) (C := R_Items) (T := F_Items) (N := 9) hx hb hts hn_Items t_Items t_Items_ok n_Items hown hK hP hD hS 0 rfl rfl 5 (by decide) hL28 (fun _ h9 => h9) rfl hin rfl (by decide +kernel) rfl rfl (Nat.le_of_ble_eq_true rfl) d_Items_init_49 (fun H locs hP hD hS => ?_)
  replace hP : va_P D vwCl [(h0, .inr (2, [.ref q_iwid, .ref q_inee, .ref q_ibar, .ref q_inea, .ref q_iswi, .ref q_iswo, .null, .int 0, .int 0])), (q_iwid, .inl (ki 0, 6, .inl (fun _ => 0))), (q_inee, .inl (ki 0, 6, .inl (fun _ => 0))), (q_ibar, .inl (ki 0, 8, .inl (fun _ => 0))), (q_inea, .inl (ki 1, 64, .inr (.inl (fun _ => 0)))), (q_iswi, .inl (ki 0, 64, .inl (fun _ => 0))), (q_iswo, .inl (ki 1, 64, .inr (.inl (fun _ => 0))))] H := hP
  replace hD : va_D A [(h0, .inr (2, [.ref q_iwid, .ref q_inee, .ref q_ibar, .ref q_inea, .ref q_iswi, .ref q_iswo, .null, .int 0, .int 0])), (q_iwid, .inl (ki 0, 6, .inl (fun _ => 0))), (q_inee, .inl (ki 0, 6, .inl (fun _ => 0))), (q_ibar, .inl (ki 0, 8, .inl (fun _ => 0))), (q_inea, .inl (ki 1, 64, .inr (.inl (fun _ => 0)))), (q_iswi, .inl (ki 0, 64, .inl (fun _ => 0))), (q_iswo, .inl (ki 1, 64, .inr (.inl (fun _ => 0))))] := hD
  refine lv_aload_n hx hb d_Items_init_52 rfl (lv_at hl 0 rfl) ?_
  refine lv_bipush (v := 64) hx hb d_Items_init_53 (by decide) ?_
  refine q_newa (atype := .long) (n := 64) (ty := .long) (a0 := (64, .inr (.inl (fun _ => 0)))) (N' := 64) hx hb (hts (.arrayClass .long) (List.mem_cons_of_mem _ m_162)) rfl hK 1 rfl hP hD hS hA (fun _ => rfl) (by decide) (by decide) (show 64 * 8 ≤ 536870912 by omega) (Nat.le_of_ble_eq_true rfl) (Nat.le_of_ble_eq_true rfl) d_Items_init_55 (fun q_isce H hP hD hS => ?_)
  refine W.widen (k := 7) (n := 276) (by omega) (by omega) ?_
  replace hP : va_P D vwCl [(h0, .inr (2, [.ref q_iwid, .ref q_inee, .ref q_ibar, .ref q_inea, .ref q_iswi, .ref q_iswo, .null, .int 0, .int 0])), (q_iwid, .inl (ki 0, 6, .inl (fun _ => 0))), (q_inee, .inl (ki 0, 6, .inl (fun _ => 0))), (q_ibar, .inl (ki 0, 8, .inl (fun _ => 0))), (q_inea, .inl (ki 1, 64, .inr (.inl (fun _ => 0)))), (q_iswi, .inl (ki 0, 64, .inl (fun _ => 0))), (q_iswo, .inl (ki 1, 64, .inr (.inl (fun _ => 0)))), (q_isce, .inl (ki 1, 64, .inr (.inl (fun _ => 0))))] H := hP
  replace hD : va_D A [(h0, .inr (2, [.ref q_iwid, .ref q_inee, .ref q_ibar, .ref q_inea, .ref q_iswi, .ref q_iswo, .null, .int 0, .int 0])), (q_iwid, .inl (ki 0, 6, .inl (fun _ => 0))), (q_inee, .inl (ki 0, 6, .inl (fun _ => 0))), (q_ibar, .inl (ki 0, 8, .inl (fun _ => 0))), (q_inea, .inl (ki 1, 64, .inr (.inl (fun _ => 0)))), (q_iswi, .inl (ki 0, 64, .inl (fun _ => 0))), (q_iswo, .inl (ki 1, 64, .inr (.inl (fun _ => 0)))), (q_isce, .inl (ki 1, 64, .inr (.inl (fun _ => 0))))] := hD
  refine va_putF (D := D) (ci := 2) (v := .ref q_isce) (ty := (.array .long)) (C := R_Items) (T := F_Items) (N := 9) hx hb hts hn_Items t_Items t_Items_ok n_Items hown hK hP hD hS 0 rfl rfl 6 (by decide) hL31 (fun _ h9 => h9) rfl hin rfl (by decide +kernel) rfl rfl (Nat.le_of_ble_eq_true rfl) d_Items_init_57 (fun H locs hP hD hS => ?_)
  replace hP : va_P D vwCl [(h0, .inr (2, [.ref q_iwid, .ref q_inee, .ref q_ibar, .ref q_inea, .ref q_iswi, .ref q_iswo, .ref q_isce, .int 0, .int 0])), (q_iwid, .inl (ki 0, 6, .inl (fun _ => 0))), (q_inee, .inl (ki 0, 6, .inl (fun _ => 0))), (q_ibar, .inl (ki 0, 8, .inl (fun _ => 0))), (q_inea, .inl (ki 1, 64, .inr (.inl (fun _ => 0)))), (q_iswi, .inl (ki 0, 64, .inl (fun _ => 0))), (q_iswo, .inl (ki 1, 64, .inr (.inl (fun _ => 0)))), (q_isce, .inl (ki 1, 64, .inr (.inl (fun _ => 0))))] H := hP
  replace hD : va_D A [(h0, .inr (2, [.ref q_iwid, .ref q_inee, .ref q_ibar, .ref q_inea, .ref q_iswi, .ref q_iswo, .ref q_isce, .int 0, .int 0])), (q_iwid, .inl (ki 0, 6, .inl (fun _ => 0))), (q_inee, .inl (ki 0, 6, .inl (fun _ => 0))), (q_ibar, .inl (ki 0, 8, .inl (fun _ => 0))), (q_inea, .inl (ki 1, 64, .inr (.inl (fun _ => 0)))), (q_iswi, .inl (ki 0, 64, .inl (fun _ => 0))), (q_iswo, .inl (ki 1, 64, .inr (.inl (fun _ => 0)))), (q_isce, .inl (ki 1, 64, .inr (.inl (fun _ => 0))))] := hD
  refine lv_aload_n hx hb d_Items_init_60 rfl (lv_at hl 0 rfl) ?_
  refine lv_iconst (v := 0) hx hb d_Items_init_61 (by decide) ?_
  refine va_put (D := D) (ci := 2) (v := .int 0) (ty := .int) (C := R_Items) (T := F_Items) (N := 9) hx hb hts hn_Items t_Items t_Items_ok n_Items hown hK hP hD hS 0 rfl rfl 7 (by decide) hL34 (fun _ h9 => h9) rfl (by decide +kernel) rfl rfl (Nat.le_of_ble_eq_true rfl) d_Items_init_62 (fun H locs hP hD hS => ?_)
  replace hP : va_P D vwCl [(h0, .inr (2, [.ref q_iwid, .ref q_inee, .ref q_ibar, .ref q_inea, .ref q_iswi, .ref q_iswo, .ref q_isce, .int 0, .int 0])), (q_iwid, .inl (ki 0, 6, .inl (fun _ => 0))), (q_inee, .inl (ki 0, 6, .inl (fun _ => 0))), (q_ibar, .inl (ki 0, 8, .inl (fun _ => 0))), (q_inea, .inl (ki 1, 64, .inr (.inl (fun _ => 0)))), (q_iswi, .inl (ki 0, 64, .inl (fun _ => 0))), (q_iswo, .inl (ki 1, 64, .inr (.inl (fun _ => 0)))), (q_isce, .inl (ki 1, 64, .inr (.inl (fun _ => 0))))] H := hP
  replace hD : va_D A [(h0, .inr (2, [.ref q_iwid, .ref q_inee, .ref q_ibar, .ref q_inea, .ref q_iswi, .ref q_iswo, .ref q_isce, .int 0, .int 0])), (q_iwid, .inl (ki 0, 6, .inl (fun _ => 0))), (q_inee, .inl (ki 0, 6, .inl (fun _ => 0))), (q_ibar, .inl (ki 0, 8, .inl (fun _ => 0))), (q_inea, .inl (ki 1, 64, .inr (.inl (fun _ => 0)))), (q_iswi, .inl (ki 0, 64, .inl (fun _ => 0))), (q_iswo, .inl (ki 1, 64, .inr (.inl (fun _ => 0)))), (q_isce, .inl (ki 1, 64, .inr (.inl (fun _ => 0))))] := hD
  refine lv_aload_n hx hb d_Items_init_65 rfl (lv_at hl 0 rfl) ?_
  refine lv_iconst (v := 0) hx hb d_Items_init_66 (by decide) ?_
  refine va_put (D := D) (ci := 2) (v := .int 0) (ty := .int) (C := R_Items) (T := F_Items) (N := 9) hx hb hts hn_Items t_Items t_Items_ok n_Items hown hK hP hD hS 0 rfl rfl 8 (by decide) hL38 (fun _ h9 => h9) rfl (by decide +kernel) rfl rfl (Nat.le_of_ble_eq_true rfl) d_Items_init_67 (fun H locs hP hD hS => ?_)
  replace hP : va_P D vwCl [(h0, .inr (2, [.ref q_iwid, .ref q_inee, .ref q_ibar, .ref q_inea, .ref q_iswi, .ref q_iswo, .ref q_isce, .int 0, .int 0])), (q_iwid, .inl (ki 0, 6, .inl (fun _ => 0))), (q_inee, .inl (ki 0, 6, .inl (fun _ => 0))), (q_ibar, .inl (ki 0, 8, .inl (fun _ => 0))), (q_inea, .inl (ki 1, 64, .inr (.inl (fun _ => 0)))), (q_iswi, .inl (ki 0, 64, .inl (fun _ => 0))), (q_iswo, .inl (ki 1, 64, .inr (.inl (fun _ => 0)))), (q_isce, .inl (ki 1, 64, .inr (.inl (fun _ => 0))))] H := hP
  replace hD : va_D A [(h0, .inr (2, [.ref q_iwid, .ref q_inee, .ref q_ibar, .ref q_inea, .ref q_iswi, .ref q_iswo, .ref q_isce, .int 0, .int 0])), (q_iwid, .inl (ki 0, 6, .inl (fun _ => 0))), (q_inee, .inl (ki 0, 6, .inl (fun _ => 0))), (q_ibar, .inl (ki 0, 8, .inl (fun _ => 0))), (q_inea, .inl (ki 1, 64, .inr (.inl (fun _ => 0)))), (q_iswi, .inl (ki 0, 64, .inl (fun _ => 0))), (q_iswo, .inl (ki 1, 64, .inr (.inl (fun _ => 0)))), (q_isce, .inl (ki 1, 64, .inr (.inl (fun _ => 0))))] := hD
  exact W.vret hx hb hr (fun t ht hW => ⟨⟨(), rfl, trivial, q_iwid, q_inee, q_ibar, q_inea, q_iswi, q_iswo, q_isce, by rw [ht]; exact hP, hD⟩, hS.F ht⟩) hS.2.2 d_Items_init_70
set_option maxRecDepth 100000 in
set_option maxHeartbeats 4000000 in
theorem cc_Fillers_init (l : Launch) (D : va_G) (ki : Nat → ClassId) (h0 : Nat)  (sz : Nat) : Met l y_Fillers_init w_Fillers_init { frames := 1, cells := 0, slots := 0, locals := 12 } (q_PcM [.ref h0] D vwCl [(h0, .inr (3, [.int 0, .int 0]))] (TYS ki) sz) (va_Qv (fun _ : Unit => True) (fun (_ : Unit) (t : State) => va_P D vwCl [(h0, .inr (3, [.int 1, .int 0]))] t.heap ∧ va_D (va_A [(h0, .inr (3, [.int 0, .int 0]))] sz) [(h0, .inr (3, [.int 1, .int 0]))]) (va_A [(h0, .inr (3, [.int 0, .int 0]))] sz)) 0 0 (va_A [(h0, .inr (3, [.int 0, .int 0]))] sz) := by
  refine Met.ofW (cc := b_Fillers_init) (maxL := 1) (ret := none) (by decide) rfl ?_
  intro p e s m args below meth c s₁ B hml hv
  obtain ⟨rfl, hsz, hP, hK, hD0, hE⟩ := hv
  have hx := B.exec
  have hb := B.bytes
  have hr := B.returns
  have hts := atoms_spec (ws := w_Fillers_init) B.pre
  have hown : s.vm.findClass R_Fillers = some m.cls := findClass_of_methodNamed B.named
  have hlocks := B.notSynchronized
  have hin : meth.name = "<init>" := (name_of_methodNamed B.named B.method).1
  have hn_Fillers : ∀ w ∈ u_ws R_Fillers F_Fillers 2, w ∈ w_Fillers_init := (fun w h => List.mem_cons_of_mem _ (i_Fillers w h))
  have hL7 := hts (.fieldLink R_Fillers 7 "RoomFills$Fillers" "least" "I") (List.mem_cons_of_mem _ m_169)
  have hL13 := hts (.fieldLink R_Fillers 13 "RoomFills$Fillers" "most" "I") (List.mem_cons_of_mem _ m_172)
  subst hsz
  have hD := hD0.self (sz := s.heap.size)
  generalize hAe : va_A [(h0, .inr (3, [.int 0, .int 0]))] s.heap.size = A at hD ⊢
  have hA : ∀ q : Nat, s.heap.size ≤ q → A q := fun q h => by rw [← hAe]; exact Or.inr h
  have hS : va_S A s.heap s.heap [] := va_S.rf
  replace hP : va_P D vwCl [(h0, .inr (3, [.int 0, .int 0]))] s.heap := hP
  have hl := lv_entry ([.ref h0]) (n := 1) (Nat.le_of_ble_eq_true rfl)
  rw [lg_entry_eq]
  generalize (lg_sl ([.ref h0]) ++ List.replicate (1 - (lg_sl ([.ref h0])).length) Slot.unset).toArray = ls at hl ⊢
  replace hl : lv_has ls 1 [(0, .ref h0)] := hl
  refine lv_aload_n hx hb d_Fillers_init_0 rfl (lv_at hl 0 rfl) ?_
  refine W.objInit hx hb hown (hts (.methodLink R_Fillers 1 objectInit) (List.mem_cons_of_mem _ m_168)) (hts (.instanceMethod objectInit) (List.mem_cons_of_mem _ m_78)) (hts _ (List.mem_cons_of_mem _ m_79)) rfl (by rw [hml]; exact hl.1) rfl d_Fillers_init_1 (Nat.le_of_ble_eq_true rfl) (Nat.le_of_ble_eq_true rfl) ?_
  refine W.eq (g2 := F0 m 4 ls []) rfl ?_
  refine lv_aload_n hx hb d_Fillers_init_4 rfl (lv_at hl 0 rfl) ?_
  refine lv_iconst (v := 1) hx hb d_Fillers_init_5 (by decide) ?_
  refine va_put (D := D) (ci := 3) (v := .int 1) (ty := .int) (C := R_Fillers) (T := F_Fillers) (N := 2) hx hb hts hn_Fillers t_Fillers t_Fillers_ok n_Fillers hown hK hP hD hS 0 rfl rfl 0 (by decide) hL7 (fun _ h9 => h9) rfl (by decide +kernel) rfl rfl (Nat.le_of_ble_eq_true rfl) d_Fillers_init_6 (fun H locs hP hD hS => ?_)
  replace hP : va_P D vwCl [(h0, .inr (3, [.int 1, .int 0]))] H := hP
  replace hD : va_D A [(h0, .inr (3, [.int 1, .int 0]))] := hD
  refine lv_aload_n hx hb d_Fillers_init_9 rfl (lv_at hl 0 rfl) ?_
  refine lv_iconst (v := 0) hx hb d_Fillers_init_10 (by decide) ?_
  refine va_put (D := D) (ci := 3) (v := .int 0) (ty := .int) (C := R_Fillers) (T := F_Fillers) (N := 2) hx hb hts hn_Fillers t_Fillers t_Fillers_ok n_Fillers hown hK hP hD hS 0 rfl rfl 1 (by decide) hL13 (fun _ h9 => h9) rfl (by decide +kernel) rfl rfl (Nat.le_of_ble_eq_true rfl) d_Fillers_init_11 (fun H locs hP hD hS => ?_)
  replace hP : va_P D vwCl [(h0, .inr (3, [.int 1, .int 0]))] H := hP
  replace hD : va_D A [(h0, .inr (3, [.int 1, .int 0]))] := hD
  exact W.vret hx hb hr (fun t ht hW => ⟨⟨(), rfl, trivial, by rw [ht]; exact hP, hD⟩, hS.F ht⟩) hS.2.2 d_Fillers_init_14
set_option maxRecDepth 100000 in
set_option maxHeartbeats 4000000 in
theorem cc_Plan_init (l : Launch) (D : va_G) (ki : Nat → ClassId) (h0 : Nat)  (sz : Nat) : Met l y_Plan_init w_Plan_init { frames := 1, cells := 6, slots := 206, locals := 12 } (q_PcM [.ref h0] D vwCl [(h0, .inr (5, [.null, .null, .null, .null, .null, .null, .int 0, .int 0, .int 0, .long 0, .long 0]))] (TYS ki) sz) (va_Qv (fun _ : Unit => True) (fun (_ : Unit) (t : State) => ∃ (q_ppi q_ppb q_pps q_ptb q_pts q_pbo : Nat), va_P D vwCl [(h0, .inr (5, [.ref q_ppi, .ref q_ppb, .ref q_pps, .ref q_ptb, .ref q_pts, .ref q_pbo, .int 0, .int 0, .int 0, .long 0, .long 0])), (q_ppi, .inl (ki 0, 40, .inl (fun _ => 0))), (q_ppb, .inl (ki 0, 40, .inl (fun _ => 0))), (q_pps, .inl (ki 0, 40, .inl (fun _ => 0))), (q_ptb, .inl (ki 0, 40, .inl (fun _ => 0))), (q_pts, .inl (ki 0, 40, .inl (fun _ => 0))), (q_pbo, .inl (ki 0, 6, .inl (fun _ => 0)))] t.heap ∧ va_D (va_A [(h0, .inr (5, [.null, .null, .null, .null, .null, .null, .int 0, .int 0, .int 0, .long 0, .long 0]))] sz) [(h0, .inr (5, [.ref q_ppi, .ref q_ppb, .ref q_pps, .ref q_ptb, .ref q_pts, .ref q_pbo, .int 0, .int 0, .int 0, .long 0, .long 0])), (q_ppi, .inl (ki 0, 40, .inl (fun _ => 0))), (q_ppb, .inl (ki 0, 40, .inl (fun _ => 0))), (q_pps, .inl (ki 0, 40, .inl (fun _ => 0))), (q_ptb, .inl (ki 0, 40, .inl (fun _ => 0))), (q_pts, .inl (ki 0, 40, .inl (fun _ => 0))), (q_pbo, .inl (ki 0, 6, .inl (fun _ => 0)))]) (va_A [(h0, .inr (5, [.null, .null, .null, .null, .null, .null, .int 0, .int 0, .int 0, .long 0, .long 0]))] sz)) 6 206 (va_A [(h0, .inr (5, [.null, .null, .null, .null, .null, .null, .int 0, .int 0, .int 0, .long 0, .long 0]))] sz) := by
  refine Met.ofW (cc := b_Plan_init) (maxL := 1) (ret := none) (by decide) rfl ?_
  intro p e s m args below meth c s₁ B hml hv
  obtain ⟨rfl, hsz, hP, hK, hD0, hE⟩ := hv
  have hx := B.exec
  have hb := B.bytes
  have hr := B.returns
  have hts := atoms_spec (ws := w_Plan_init) B.pre
  have hown : s.vm.findClass R_Plan = some m.cls := findClass_of_methodNamed B.named
  have hlocks := B.notSynchronized
  have hin : meth.name = "<init>" := (name_of_methodNamed B.named B.method).1
  have hn_Plan : ∀ w ∈ u_ws R_Plan F_Plan 11, w ∈ w_Plan_init := (fun w h => List.mem_cons_of_mem _ (i_Plan w h))
  have hL9 := hts (.fieldLink R_Plan 9 "RoomFills$Plan" "pieceItem" "[I") (List.mem_cons_of_mem _ m_218)
  have hL15 := hts (.fieldLink R_Plan 15 "RoomFills$Plan" "pieceBegin" "[I") (List.mem_cons_of_mem _ m_220)
  have hL18 := hts (.fieldLink R_Plan 18 "RoomFills$Plan" "pieceSteps" "[I") (List.mem_cons_of_mem _ m_222)
  have hL21 := hts (.fieldLink R_Plan 21 "RoomFills$Plan" "topBegin" "[I") (List.mem_cons_of_mem _ m_224)
  have hL24 := hts (.fieldLink R_Plan 24 "RoomFills$Plan" "topSteps" "[I") (List.mem_cons_of_mem _ m_226)
  have hL27 := hts (.fieldLink R_Plan 27 "RoomFills$Plan" "beginOf" "[I") (List.mem_cons_of_mem _ m_228)
  subst hsz
  have hD := hD0.self (sz := s.heap.size)
  generalize hAe : va_A [(h0, .inr (5, [.null, .null, .null, .null, .null, .null, .int 0, .int 0, .int 0, .long 0, .long 0]))] s.heap.size = A at hD ⊢
  have hA : ∀ q : Nat, s.heap.size ≤ q → A q := fun q h => by rw [← hAe]; exact Or.inr h
  have hS : va_S A s.heap s.heap [] := va_S.rf
  replace hP : va_P D vwCl [(h0, .inr (5, [.null, .null, .null, .null, .null, .null, .int 0, .int 0, .int 0, .long 0, .long 0]))] s.heap := hP
  have hl := lv_entry ([.ref h0]) (n := 1) (Nat.le_of_ble_eq_true rfl)
  rw [lg_entry_eq]
  generalize (lg_sl ([.ref h0]) ++ List.replicate (1 - (lg_sl ([.ref h0])).length) Slot.unset).toArray = ls at hl ⊢
  replace hl : lv_has ls 1 [(0, .ref h0)] := hl
  refine lv_aload_n hx hb d_Plan_init_0 rfl (lv_at hl 0 rfl) ?_
  refine W.objInit hx hb hown (hts (.methodLink R_Plan 3 objectInit) (List.mem_cons_of_mem _ m_217)) (hts (.instanceMethod objectInit) (List.mem_cons_of_mem _ m_78)) (hts _ (List.mem_cons_of_mem _ m_79)) rfl (by rw [hml]; exact hl.1) rfl d_Plan_init_1 (Nat.le_of_ble_eq_true rfl) (Nat.le_of_ble_eq_true rfl) ?_
  refine W.eq (g2 := F0 m 4 ls []) rfl ?_
  refine lv_aload_n hx hb d_Plan_init_4 rfl (lv_at hl 0 rfl) ?_
  refine lv_bipush (v := 40) hx hb d_Plan_init_5 (by decide) ?_
  refine q_newa (atype := .int) (n := 40) (ty := .int) (a0 := (40, .inl (fun _ => 0))) (N' := 40) hx hb (hts (.arrayClass .int) (List.mem_cons_of_mem _ m_112)) rfl hK 0 rfl hP hD hS hA (fun _ => rfl) (by decide) (by decide) (show 40 * 4 ≤ 536870912 by omega) (Nat.le_of_ble_eq_true rfl) (Nat.le_of_ble_eq_true rfl) d_Plan_init_7 (fun q_ppi H hP hD hS => ?_)
  refine W.widen (k := 1) (n := 40) (by omega) (by omega) ?_
  replace hP : va_P D vwCl [(h0, .inr (5, [.null, .null, .null, .null, .null, .null, .int 0, .int 0, .int 0, .long 0, .long 0])), (q_ppi, .inl (ki 0, 40, .inl (fun _ => 0)))] H := hP
  replace hD : va_D A [(h0, .inr (5, [.null, .null, .null, .null, .null, .null, .int 0, .int 0, .int 0, .long 0, .long 0])), (q_ppi, .inl (ki 0, 40, .inl (fun _ => 0)))] := hD
  refine va_putF (D := D) (ci := 5) (v := .ref q_ppi) (ty := (.array .int)) (C := R_Plan) (T := F_Plan) (N := 11) hx hb hts hn_Plan t_Plan t_Plan_ok n_Plan hown hK hP hD hS 0 rfl rfl 0 (by decide) hL9 (fun _ h9 => h9) rfl hin rfl (by decide +kernel) rfl rfl (Nat.le_of_ble_eq_true rfl) d_Plan_init_9 (fun H locs hP hD hS => ?_)
  replace hP : va_P D vwCl [(h0, .inr (5, [.ref q_ppi, .null, .null, .null, .null, .null, .int 0, .int 0, .int 0, .long 0, .long 0])), (q_ppi, .inl (ki 0, 40, .inl (fun _ => 0)))] H := hP
  replace hD : va_D A [(h0, .inr (5, [.ref q_ppi, .null, .null, .null, .null, .null, .int 0, .int 0, .int 0, .long 0, .long 0])), (q_ppi, .inl (ki 0, 40, .inl (fun _ => 0)))] := hD
  refine lv_aload_n hx hb d_Plan_init_12 rfl (lv_at hl 0 rfl) ?_
  refine lv_bipush (v := 40) hx hb d_Plan_init_13 (by decide) ?_
  refine q_newa (atype := .int) (n := 40) (ty := .int) (a0 := (40, .inl (fun _ => 0))) (N' := 40) hx hb (hts (.arrayClass .int) (List.mem_cons_of_mem _ m_112)) rfl hK 0 rfl hP hD hS hA (fun _ => rfl) (by decide) (by decide) (show 40 * 4 ≤ 536870912 by omega) (Nat.le_of_ble_eq_true rfl) (Nat.le_of_ble_eq_true rfl) d_Plan_init_15 (fun q_ppb H hP hD hS => ?_)
  refine W.widen (k := 2) (n := 80) (by omega) (by omega) ?_
  replace hP : va_P D vwCl [(h0, .inr (5, [.ref q_ppi, .null, .null, .null, .null, .null, .int 0, .int 0, .int 0, .long 0, .long 0])), (q_ppi, .inl (ki 0, 40, .inl (fun _ => 0))), (q_ppb, .inl (ki 0, 40, .inl (fun _ => 0)))] H := hP
  replace hD : va_D A [(h0, .inr (5, [.ref q_ppi, .null, .null, .null, .null, .null, .int 0, .int 0, .int 0, .long 0, .long 0])), (q_ppi, .inl (ki 0, 40, .inl (fun _ => 0))), (q_ppb, .inl (ki 0, 40, .inl (fun _ => 0)))] := hD
  refine va_putF (D := D) (ci := 5) (v := .ref q_ppb) (ty := (.array .int)) (C := R_Plan) (T := F_Plan) (N := 11) hx hb hts hn_Plan t_Plan t_Plan_ok n_Plan hown hK hP hD hS 0 rfl rfl 1 (by decide) hL15 (fun _ h9 => h9) rfl hin rfl (by decide +kernel) rfl rfl (Nat.le_of_ble_eq_true rfl) d_Plan_init_17 (fun H locs hP hD hS => ?_)
  replace hP : va_P D vwCl [(h0, .inr (5, [.ref q_ppi, .ref q_ppb, .null, .null, .null, .null, .int 0, .int 0, .int 0, .long 0, .long 0])), (q_ppi, .inl (ki 0, 40, .inl (fun _ => 0))), (q_ppb, .inl (ki 0, 40, .inl (fun _ => 0)))] H := hP
  replace hD : va_D A [(h0, .inr (5, [.ref q_ppi, .ref q_ppb, .null, .null, .null, .null, .int 0, .int 0, .int 0, .long 0, .long 0])), (q_ppi, .inl (ki 0, 40, .inl (fun _ => 0))), (q_ppb, .inl (ki 0, 40, .inl (fun _ => 0)))] := hD
  refine lv_aload_n hx hb d_Plan_init_20 rfl (lv_at hl 0 rfl) ?_
  refine lv_bipush (v := 40) hx hb d_Plan_init_21 (by decide) ?_
  refine q_newa (atype := .int) (n := 40) (ty := .int) (a0 := (40, .inl (fun _ => 0))) (N' := 40) hx hb (hts (.arrayClass .int) (List.mem_cons_of_mem _ m_112)) rfl hK 0 rfl hP hD hS hA (fun _ => rfl) (by decide) (by decide) (show 40 * 4 ≤ 536870912 by omega) (Nat.le_of_ble_eq_true rfl) (Nat.le_of_ble_eq_true rfl) d_Plan_init_23 (fun q_pps H hP hD hS => ?_)
  refine W.widen (k := 3) (n := 120) (by omega) (by omega) ?_
  replace hP : va_P D vwCl [(h0, .inr (5, [.ref q_ppi, .ref q_ppb, .null, .null, .null, .null, .int 0, .int 0, .int 0, .long 0, .long 0])), (q_ppi, .inl (ki 0, 40, .inl (fun _ => 0))), (q_ppb, .inl (ki 0, 40, .inl (fun _ => 0))), (q_pps, .inl (ki 0, 40, .inl (fun _ => 0)))] H := hP
  replace hD : va_D A [(h0, .inr (5, [.ref q_ppi, .ref q_ppb, .null, .null, .null, .null, .int 0, .int 0, .int 0, .long 0, .long 0])), (q_ppi, .inl (ki 0, 40, .inl (fun _ => 0))), (q_ppb, .inl (ki 0, 40, .inl (fun _ => 0))), (q_pps, .inl (ki 0, 40, .inl (fun _ => 0)))] := hD
  refine va_putF (D := D) (ci := 5) (v := .ref q_pps) (ty := (.array .int)) (C := R_Plan) (T := F_Plan) (N := 11) hx hb hts hn_Plan t_Plan t_Plan_ok n_Plan hown hK hP hD hS 0 rfl rfl 2 (by decide) hL18 (fun _ h9 => h9) rfl hin rfl (by decide +kernel) rfl rfl (Nat.le_of_ble_eq_true rfl) d_Plan_init_25 (fun H locs hP hD hS => ?_)
  replace hP : va_P D vwCl [(h0, .inr (5, [.ref q_ppi, .ref q_ppb, .ref q_pps, .null, .null, .null, .int 0, .int 0, .int 0, .long 0, .long 0])), (q_ppi, .inl (ki 0, 40, .inl (fun _ => 0))), (q_ppb, .inl (ki 0, 40, .inl (fun _ => 0))), (q_pps, .inl (ki 0, 40, .inl (fun _ => 0)))] H := hP
  replace hD : va_D A [(h0, .inr (5, [.ref q_ppi, .ref q_ppb, .ref q_pps, .null, .null, .null, .int 0, .int 0, .int 0, .long 0, .long 0])), (q_ppi, .inl (ki 0, 40, .inl (fun _ => 0))), (q_ppb, .inl (ki 0, 40, .inl (fun _ => 0))), (q_pps, .inl (ki 0, 40, .inl (fun _ => 0)))] := hD
  refine lv_aload_n hx hb d_Plan_init_28 rfl (lv_at hl 0 rfl) ?_
  refine lv_bipush (v := 40) hx hb d_Plan_init_29 (by decide) ?_
  refine q_newa (atype := .int) (n := 40) (ty := .int) (a0 := (40, .inl (fun _ => 0))) (N' := 40) hx hb (hts (.arrayClass .int) (List.mem_cons_of_mem _ m_112)) rfl hK 0 rfl hP hD hS hA (fun _ => rfl) (by decide) (by decide) (show 40 * 4 ≤ 536870912 by omega) (Nat.le_of_ble_eq_true rfl) (Nat.le_of_ble_eq_true rfl) d_Plan_init_31 (fun q_ptb H hP hD hS => ?_)
  refine W.widen (k := 4) (n := 160) (by omega) (by omega) ?_
  replace hP : va_P D vwCl [(h0, .inr (5, [.ref q_ppi, .ref q_ppb, .ref q_pps, .null, .null, .null, .int 0, .int 0, .int 0, .long 0, .long 0])), (q_ppi, .inl (ki 0, 40, .inl (fun _ => 0))), (q_ppb, .inl (ki 0, 40, .inl (fun _ => 0))), (q_pps, .inl (ki 0, 40, .inl (fun _ => 0))), (q_ptb, .inl (ki 0, 40, .inl (fun _ => 0)))] H := hP
  replace hD : va_D A [(h0, .inr (5, [.ref q_ppi, .ref q_ppb, .ref q_pps, .null, .null, .null, .int 0, .int 0, .int 0, .long 0, .long 0])), (q_ppi, .inl (ki 0, 40, .inl (fun _ => 0))), (q_ppb, .inl (ki 0, 40, .inl (fun _ => 0))), (q_pps, .inl (ki 0, 40, .inl (fun _ => 0))), (q_ptb, .inl (ki 0, 40, .inl (fun _ => 0)))] := hD
  refine va_putF (D := D) (ci := 5) (v := .ref q_ptb) (ty := (.array .int)) (C := R_Plan) (T := F_Plan) (N := 11) hx hb hts hn_Plan t_Plan t_Plan_ok n_Plan hown hK hP hD hS 0 rfl rfl 3 (by decide) hL21 (fun _ h9 => h9) rfl hin rfl (by decide +kernel) rfl rfl (Nat.le_of_ble_eq_true rfl) d_Plan_init_33 (fun H locs hP hD hS => ?_)
  replace hP : va_P D vwCl [(h0, .inr (5, [.ref q_ppi, .ref q_ppb, .ref q_pps, .ref q_ptb, .null, .null, .int 0, .int 0, .int 0, .long 0, .long 0])), (q_ppi, .inl (ki 0, 40, .inl (fun _ => 0))), (q_ppb, .inl (ki 0, 40, .inl (fun _ => 0))), (q_pps, .inl (ki 0, 40, .inl (fun _ => 0))), (q_ptb, .inl (ki 0, 40, .inl (fun _ => 0)))] H := hP
  replace hD : va_D A [(h0, .inr (5, [.ref q_ppi, .ref q_ppb, .ref q_pps, .ref q_ptb, .null, .null, .int 0, .int 0, .int 0, .long 0, .long 0])), (q_ppi, .inl (ki 0, 40, .inl (fun _ => 0))), (q_ppb, .inl (ki 0, 40, .inl (fun _ => 0))), (q_pps, .inl (ki 0, 40, .inl (fun _ => 0))), (q_ptb, .inl (ki 0, 40, .inl (fun _ => 0)))] := hD
  refine lv_aload_n hx hb d_Plan_init_36 rfl (lv_at hl 0 rfl) ?_
  refine lv_bipush (v := 40) hx hb d_Plan_init_37 (by decide) ?_
  refine q_newa (atype := .int) (n := 40) (ty := .int) (a0 := (40, .inl (fun _ => 0))) (N' := 40) hx hb (hts (.arrayClass .int) (List.mem_cons_of_mem _ m_112)) rfl hK 0 rfl hP hD hS hA (fun _ => rfl) (by decide) (by decide) (show 40 * 4 ≤ 536870912 by omega) (Nat.le_of_ble_eq_true rfl) (Nat.le_of_ble_eq_true rfl) d_Plan_init_39 (fun q_pts H hP hD hS => ?_)
  refine W.widen (k := 5) (n := 200) (by omega) (by omega) ?_
  replace hP : va_P D vwCl [(h0, .inr (5, [.ref q_ppi, .ref q_ppb, .ref q_pps, .ref q_ptb, .null, .null, .int 0, .int 0, .int 0, .long 0, .long 0])), (q_ppi, .inl (ki 0, 40, .inl (fun _ => 0))), (q_ppb, .inl (ki 0, 40, .inl (fun _ => 0))), (q_pps, .inl (ki 0, 40, .inl (fun _ => 0))), (q_ptb, .inl (ki 0, 40, .inl (fun _ => 0))), (q_pts, .inl (ki 0, 40, .inl (fun _ => 0)))] H := hP
  replace hD : va_D A [(h0, .inr (5, [.ref q_ppi, .ref q_ppb, .ref q_pps, .ref q_ptb, .null, .null, .int 0, .int 0, .int 0, .long 0, .long 0])), (q_ppi, .inl (ki 0, 40, .inl (fun _ => 0))), (q_ppb, .inl (ki 0, 40, .inl (fun _ => 0))), (q_pps, .inl (ki 0, 40, .inl (fun _ => 0))), (q_ptb, .inl (ki 0, 40, .inl (fun _ => 0))), (q_pts, .inl (ki 0, 40, .inl (fun _ => 0)))] := hD
  refine va_putF (D := D) (ci := 5) (v := .ref q_pts) (ty := (.array .int)) (C := R_Plan) (T := F_Plan) (N := 11) hx hb hts hn_Plan t_Plan t_Plan_ok n_Plan hown hK hP hD hS 0 rfl rfl 4 (by decide) hL24 (fun _ h9 => h9) rfl hin rfl (by decide +kernel) rfl rfl (Nat.le_of_ble_eq_true rfl) d_Plan_init_41 (fun H locs hP hD hS => ?_)
  replace hP : va_P D vwCl [(h0, .inr (5, [.ref q_ppi, .ref q_ppb, .ref q_pps, .ref q_ptb, .ref q_pts, .null, .int 0, .int 0, .int 0, .long 0, .long 0])), (q_ppi, .inl (ki 0, 40, .inl (fun _ => 0))), (q_ppb, .inl (ki 0, 40, .inl (fun _ => 0))), (q_pps, .inl (ki 0, 40, .inl (fun _ => 0))), (q_ptb, .inl (ki 0, 40, .inl (fun _ => 0))), (q_pts, .inl (ki 0, 40, .inl (fun _ => 0)))] H := hP
  replace hD : va_D A [(h0, .inr (5, [.ref q_ppi, .ref q_ppb, .ref q_pps, .ref q_ptb, .ref q_pts, .null, .int 0, .int 0, .int 0, .long 0, .long 0])), (q_ppi, .inl (ki 0, 40, .inl (fun _ => 0))), (q_ppb, .inl (ki 0, 40, .inl (fun _ => 0))), (q_pps, .inl (ki 0, 40, .inl (fun _ => 0))), (q_ptb, .inl (ki 0, 40, .inl (fun _ => 0))), (q_pts, .inl (ki 0, 40, .inl (fun _ => 0)))] := hD
  refine lv_aload_n hx hb d_Plan_init_44 rfl (lv_at hl 0 rfl) ?_
  refine lv_bipush (v := 6) hx hb d_Plan_init_45 (by decide) ?_
  refine q_newa (atype := .int) (n := 6) (ty := .int) (a0 := (6, .inl (fun _ => 0))) (N' := 6) hx hb (hts (.arrayClass .int) (List.mem_cons_of_mem _ m_112)) rfl hK 0 rfl hP hD hS hA (fun _ => rfl) (by decide) (by decide) (show 6 * 4 ≤ 536870912 by omega) (Nat.le_of_ble_eq_true rfl) (Nat.le_of_ble_eq_true rfl) d_Plan_init_47 (fun q_pbo H hP hD hS => ?_)
  refine W.widen (k := 6) (n := 206) (by omega) (by omega) ?_
  replace hP : va_P D vwCl [(h0, .inr (5, [.ref q_ppi, .ref q_ppb, .ref q_pps, .ref q_ptb, .ref q_pts, .null, .int 0, .int 0, .int 0, .long 0, .long 0])), (q_ppi, .inl (ki 0, 40, .inl (fun _ => 0))), (q_ppb, .inl (ki 0, 40, .inl (fun _ => 0))), (q_pps, .inl (ki 0, 40, .inl (fun _ => 0))), (q_ptb, .inl (ki 0, 40, .inl (fun _ => 0))), (q_pts, .inl (ki 0, 40, .inl (fun _ => 0))), (q_pbo, .inl (ki 0, 6, .inl (fun _ => 0)))] H := hP
  replace hD : va_D A [(h0, .inr (5, [.ref q_ppi, .ref q_ppb, .ref q_pps, .ref q_ptb, .ref q_pts, .null, .int 0, .int 0, .int 0, .long 0, .long 0])), (q_ppi, .inl (ki 0, 40, .inl (fun _ => 0))), (q_ppb, .inl (ki 0, 40, .inl (fun _ => 0))), (q_pps, .inl (ki 0, 40, .inl (fun _ => 0))), (q_ptb, .inl (ki 0, 40, .inl (fun _ => 0))), (q_pts, .inl (ki 0, 40, .inl (fun _ => 0))), (q_pbo, .inl (ki 0, 6, .inl (fun _ => 0)))] := hD
  refine va_putF (D := D) (ci := 5) (v := .ref q_pbo) (ty := (.array .int)) (C := R_Plan) (T := F_Plan) (N := 11) hx hb hts hn_Plan t_Plan t_Plan_ok n_Plan hown hK hP hD hS 0 rfl rfl 5 (by decide) hL27 (fun _ h9 => h9) rfl hin rfl (by decide +kernel) rfl rfl (Nat.le_of_ble_eq_true rfl) d_Plan_init_49 (fun H locs hP hD hS => ?_)
  replace hP : va_P D vwCl [(h0, .inr (5, [.ref q_ppi, .ref q_ppb, .ref q_pps, .ref q_ptb, .ref q_pts, .ref q_pbo, .int 0, .int 0, .int 0, .long 0, .long 0])), (q_ppi, .inl (ki 0, 40, .inl (fun _ => 0))), (q_ppb, .inl (ki 0, 40, .inl (fun _ => 0))), (q_pps, .inl (ki 0, 40, .inl (fun _ => 0))), (q_ptb, .inl (ki 0, 40, .inl (fun _ => 0))), (q_pts, .inl (ki 0, 40, .inl (fun _ => 0))), (q_pbo, .inl (ki 0, 6, .inl (fun _ => 0)))] H := hP
  replace hD : va_D A [(h0, .inr (5, [.ref q_ppi, .ref q_ppb, .ref q_pps, .ref q_ptb, .ref q_pts, .ref q_pbo, .int 0, .int 0, .int 0, .long 0, .long 0])), (q_ppi, .inl (ki 0, 40, .inl (fun _ => 0))), (q_ppb, .inl (ki 0, 40, .inl (fun _ => 0))), (q_pps, .inl (ki 0, 40, .inl (fun _ => 0))), (q_ptb, .inl (ki 0, 40, .inl (fun _ => 0))), (q_pts, .inl (ki 0, 40, .inl (fun _ => 0))), (q_pbo, .inl (ki 0, 6, .inl (fun _ => 0)))] := hD
  exact W.vret hx hb hr (fun t ht hW => ⟨⟨(), rfl, trivial, q_ppi, q_ppb, q_pps, q_ptb, q_pts, q_pbo, by rw [ht]; exact hP, hD⟩, hS.F ht⟩) hS.2.2 d_Plan_init_52
set_option maxRecDepth 100000 in
set_option maxHeartbeats 4000000 in
theorem cc_Table_init (l : Launch) (D : va_G) (ki : Nat → ClassId) (h0 : Nat) (aw : Nat) (ai : Nat) (af : Nat) (a1 : Nat) (a2 : Nat) (st : Int32) (pc0 : Int32) (S : Nat) (hS9 : S ≤ 40) (hp : st = nI S) (sz : Nat) : Met l y_Table_init w_Table_init { frames := 1, cells := 3, slots := 21072, locals := 12 } (q_PcM [.ref h0, .ref aw, .ref ai, .ref af] D vwCl [(h0, .inr (4, [.null, .null, .null, .null, .null, .null])), (aw, .inr (1, [.int st, .ref a1, .ref a2, .int pc0]))] (TYS ki) sz) (va_Qv (fun _ : Unit => True) (fun (_ : Unit) (t : State) => ∃ (q_tval q_tfit q_tlon : Nat), va_P D vwCl [(h0, .inr (4, [.ref aw, .ref ai, .ref af, .ref q_tval, .ref q_tfit, .ref q_tlon])), (aw, .inr (1, [.int st, .ref a1, .ref a2, .int pc0])), (q_tval, .inl (ki 1, ((S + 1) * 64 * 8), .inr (.inl (fun _ => 0)))), (q_tfit, .inl (ki 0, S, .inl (fun _ => 0))), (q_tlon, .inl (ki 0, S, .inl (fun _ => 0)))] t.heap ∧ va_D (va_A [(h0, .inr (4, [.null, .null, .null, .null, .null, .null])), (aw, .inr (1, [.int st, .ref a1, .ref a2, .int pc0]))] sz) [(h0, .inr (4, [.ref aw, .ref ai, .ref af, .ref q_tval, .ref q_tfit, .ref q_tlon])), (aw, .inr (1, [.int st, .ref a1, .ref a2, .int pc0])), (q_tval, .inl (ki 1, ((S + 1) * 64 * 8), .inr (.inl (fun _ => 0)))), (q_tfit, .inl (ki 0, S, .inl (fun _ => 0))), (q_tlon, .inl (ki 0, S, .inl (fun _ => 0)))]) (va_A [(h0, .inr (4, [.null, .null, .null, .null, .null, .null])), (aw, .inr (1, [.int st, .ref a1, .ref a2, .int pc0]))] sz)) 3 21072 (va_A [(h0, .inr (4, [.null, .null, .null, .null, .null, .null])), (aw, .inr (1, [.int st, .ref a1, .ref a2, .int pc0]))] sz) := by
  refine Met.ofW (cc := b_Table_init) (maxL := 4) (ret := none) (by decide) rfl ?_
  intro p e s m args below meth c s₁ B hml hv
  obtain ⟨rfl, hsz, hP, hK, hD0, hE⟩ := hv
  have hx := B.exec
  have hb := B.bytes
  have hr := B.returns
  have hts := atoms_spec (ws := w_Table_init) B.pre
  have hown : s.vm.findClass R_Table = some m.cls := findClass_of_methodNamed B.named
  have hlocks := B.notSynchronized
  have hin : meth.name = "<init>" := (name_of_methodNamed B.named B.method).1
  have hn_Table : ∀ w ∈ u_ws R_Table F_Table 6, w ∈ w_Table_init := (fun w h => List.mem_cons_of_mem _ (i_Table w h))
  have hn_Wall : ∀ w ∈ u_ws R_Wall F_Wall 4, w ∈ w_Table_init := (fun w h => List.mem_cons_of_mem _ (i_Wall w h))
  have hL9 := hts (.fieldLink R_Table 9 "RoomFills$Table" "wall" "LRoomFills$Wall;") (List.mem_cons_of_mem _ m_191)
  have hL15 := hts (.fieldLink R_Table 15 "RoomFills$Table" "items" "LRoomFills$Items;") (List.mem_cons_of_mem _ m_192)
  have hL19 := hts (.fieldLink R_Table 19 "RoomFills$Table" "fillers" "LRoomFills$Fillers;") (List.mem_cons_of_mem _ m_193)
  have hL23 := hts (.fieldLink R_Table 23 "RoomFills$Wall" "steps" "I") (List.mem_cons_of_mem _ m_93)
  have hL29 := hts (.fieldLink R_Table 29 "RoomFills$Table" "values" "[J") (List.mem_cons_of_mem _ m_195)
  have hL33 := hts (.fieldLink R_Table 33 "RoomFills$Table" "fittingSet" "[I") (List.mem_cons_of_mem _ m_196)
  have hL37 := hts (.fieldLink R_Table 37 "RoomFills$Table" "longestFiller" "[I") (List.mem_cons_of_mem _ m_197)
  subst hsz
  have hD := hD0.self (sz := s.heap.size)
  generalize hAe : va_A [(h0, .inr (4, [.null, .null, .null, .null, .null, .null])), (aw, .inr (1, [.int st, .ref a1, .ref a2, .int pc0]))] s.heap.size = A at hD ⊢
  have hA : ∀ q : Nat, s.heap.size ≤ q → A q := fun q h => by rw [← hAe]; exact Or.inr h
  have hS : va_S A s.heap s.heap [] := va_S.rf
  replace hP : va_P D vwCl [(h0, .inr (4, [.null, .null, .null, .null, .null, .null])), (aw, .inr (1, [.int st, .ref a1, .ref a2, .int pc0]))] s.heap := hP
  have hl := lv_entry ([.ref h0, .ref aw, .ref ai, .ref af]) (n := 4) (Nat.le_of_ble_eq_true rfl)
  rw [lg_entry_eq]
  generalize (lg_sl ([.ref h0, .ref aw, .ref ai, .ref af]) ++ List.replicate (4 - (lg_sl ([.ref h0, .ref aw, .ref ai, .ref af])).length) Slot.unset).toArray = ls at hl ⊢
  replace hl : lv_has ls 4 [(0, .ref h0), (1, .ref aw), (2, .ref ai), (3, .ref af)] := hl
  refine lv_aload_n hx hb d_Table_init_0 rfl (lv_at hl 0 rfl) ?_
  refine W.objInit hx hb hown (hts (.methodLink R_Table 3 objectInit) (List.mem_cons_of_mem _ m_190)) (hts (.instanceMethod objectInit) (List.mem_cons_of_mem _ m_78)) (hts _ (List.mem_cons_of_mem _ m_79)) rfl (by rw [hml]; exact hl.1) rfl d_Table_init_1 (Nat.le_of_ble_eq_true rfl) (Nat.le_of_ble_eq_true rfl) ?_
  refine W.eq (g2 := F0 m 4 ls []) rfl ?_
  refine lv_aload_n hx hb d_Table_init_4 rfl (lv_at hl 0 rfl) ?_
  refine lv_aload_n hx hb d_Table_init_5 rfl (lv_at hl 1 rfl) ?_
  refine va_putF (D := D) (ci := 4) (v := .ref aw) (ty := (.object "RoomFills$Wall")) (C := R_Table) (T := F_Table) (N := 6) hx hb hts hn_Table t_Table t_Table_ok n_Table hown hK hP hD hS 0 rfl rfl 0 (by decide) hL9 (fun _ h9 => h9) rfl hin rfl (by decide +kernel) rfl rfl (Nat.le_of_ble_eq_true rfl) d_Table_init_6 (fun H locs hP hD hS => ?_)
  replace hP : va_P D vwCl [(h0, .inr (4, [.ref aw, .null, .null, .null, .null, .null])), (aw, .inr (1, [.int st, .ref a1, .ref a2, .int pc0]))] H := hP
  replace hD : va_D A [(h0, .inr (4, [.ref aw, .null, .null, .null, .null, .null])), (aw, .inr (1, [.int st, .ref a1, .ref a2, .int pc0]))] := hD
  refine lv_aload_n hx hb d_Table_init_9 rfl (lv_at hl 0 rfl) ?_
  refine lv_aload_n hx hb d_Table_init_10 rfl (lv_at hl 2 rfl) ?_
  refine va_putF (D := D) (ci := 4) (v := .ref ai) (ty := (.object "RoomFills$Items")) (C := R_Table) (T := F_Table) (N := 6) hx hb hts hn_Table t_Table t_Table_ok n_Table hown hK hP hD hS 0 rfl rfl 1 (by decide) hL15 (fun _ h9 => h9) rfl hin rfl (by decide +kernel) rfl rfl (Nat.le_of_ble_eq_true rfl) d_Table_init_11 (fun H locs hP hD hS => ?_)
  replace hP : va_P D vwCl [(h0, .inr (4, [.ref aw, .ref ai, .null, .null, .null, .null])), (aw, .inr (1, [.int st, .ref a1, .ref a2, .int pc0]))] H := hP
  replace hD : va_D A [(h0, .inr (4, [.ref aw, .ref ai, .null, .null, .null, .null])), (aw, .inr (1, [.int st, .ref a1, .ref a2, .int pc0]))] := hD
  refine lv_aload_n hx hb d_Table_init_14 rfl (lv_at hl 0 rfl) ?_
  refine lv_aload_n hx hb d_Table_init_15 rfl (lv_at hl 3 rfl) ?_
  refine va_putF (D := D) (ci := 4) (v := .ref af) (ty := (.object "RoomFills$Fillers")) (C := R_Table) (T := F_Table) (N := 6) hx hb hts hn_Table t_Table t_Table_ok n_Table hown hK hP hD hS 0 rfl rfl 2 (by decide) hL19 (fun _ h9 => h9) rfl hin rfl (by decide +kernel) rfl rfl (Nat.le_of_ble_eq_true rfl) d_Table_init_16 (fun H locs hP hD hS => ?_)
  replace hP : va_P D vwCl [(h0, .inr (4, [.ref aw, .ref ai, .ref af, .null, .null, .null])), (aw, .inr (1, [.int st, .ref a1, .ref a2, .int pc0]))] H := hP
  replace hD : va_D A [(h0, .inr (4, [.ref aw, .ref ai, .ref af, .null, .null, .null])), (aw, .inr (1, [.int st, .ref a1, .ref a2, .int pc0]))] := hD
  refine lv_aload_n hx hb d_Table_init_19 rfl (lv_at hl 0 rfl) ?_
  refine lv_aload_n hx hb d_Table_init_20 rfl (lv_at hl 1 rfl) ?_
  refine va_get (D := D) (ci := 1) (v := .int st) (C := R_Wall) (T := F_Wall) (N := 4) hx hb hts hn_Wall hown hK hP 1 rfl rfl 0 (by decide) hL23 (fun _ h9 => h9) rfl d_Table_init_21 ?_
  refine lv_iconst (v := 1) hx hb d_Table_init_24 (by decide) ?_
  refine lv_iadd hx hb d_Table_init_25 ?_
  refine lv_bipush (v := 64) hx hb d_Table_init_26 (by decide) ?_
  refine lv_imul hx hb d_Table_init_28 ?_
  refine lv_bipush (v := 8) hx hb d_Table_init_29 (by decide) ?_
  refine lv_imul hx hb d_Table_init_31 ?_
  refine q_newa (atype := .long) (n := (((st + 1) * 64) * 8)) (ty := .long) (a0 := (((S + 1) * 64 * 8), .inr (.inl (fun _ => 0)))) (N' := ((S + 1) * 64 * 8)) hx hb (hts (.arrayClass .long) (List.mem_cons_of_mem _ m_162)) rfl hK 1 rfl hP hD hS hA (fun _ => rfl) (by rw [hp, q_tl9]; exact nI_pos (by omega)) (by rw [hp, q_tl9]; exact nI_clamp (by omega)) (show ((S + 1) * 64 * 8) * 8 ≤ 536870912 by omega) (Nat.le_of_ble_eq_true rfl) (Nat.le_trans (Nat.add_le_add_left (show (S + 1) * 64 * 8 ≤ 20992 by omega) _) (Nat.le_of_ble_eq_true rfl)) d_Table_init_32 (fun q_tval H hP hD hS => ?_)
  refine W.widen (k := 1) (n := 20992) (by omega) (by omega) ?_
  replace hP : va_P D vwCl [(h0, .inr (4, [.ref aw, .ref ai, .ref af, .null, .null, .null])), (aw, .inr (1, [.int st, .ref a1, .ref a2, .int pc0])), (q_tval, .inl (ki 1, ((S + 1) * 64 * 8), .inr (.inl (fun _ => 0))))] H := hP
  replace hD : va_D A [(h0, .inr (4, [.ref aw, .ref ai, .ref af, .null, .null, .null])), (aw, .inr (1, [.int st, .ref a1, .ref a2, .int pc0])), (q_tval, .inl (ki 1, ((S + 1) * 64 * 8), .inr (.inl (fun _ => 0))))] := hD
  refine va_putF (D := D) (ci := 4) (v := .ref q_tval) (ty := (.array .long)) (C := R_Table) (T := F_Table) (N := 6) hx hb hts hn_Table t_Table t_Table_ok n_Table hown hK hP hD hS 0 rfl rfl 3 (by decide) hL29 (fun _ h9 => h9) rfl hin rfl (by decide +kernel) rfl rfl (Nat.le_of_ble_eq_true rfl) d_Table_init_34 (fun H locs hP hD hS => ?_)
  replace hP : va_P D vwCl [(h0, .inr (4, [.ref aw, .ref ai, .ref af, .ref q_tval, .null, .null])), (aw, .inr (1, [.int st, .ref a1, .ref a2, .int pc0])), (q_tval, .inl (ki 1, ((S + 1) * 64 * 8), .inr (.inl (fun _ => 0))))] H := hP
  replace hD : va_D A [(h0, .inr (4, [.ref aw, .ref ai, .ref af, .ref q_tval, .null, .null])), (aw, .inr (1, [.int st, .ref a1, .ref a2, .int pc0])), (q_tval, .inl (ki 1, ((S + 1) * 64 * 8), .inr (.inl (fun _ => 0))))] := hD
  refine lv_aload_n hx hb d_Table_init_37 rfl (lv_at hl 0 rfl) ?_
  refine lv_aload_n hx hb d_Table_init_38 rfl (lv_at hl 1 rfl) ?_
  refine va_get (D := D) (ci := 1) (v := .int st) (C := R_Wall) (T := F_Wall) (N := 4) hx hb hts hn_Wall hown hK hP 1 rfl rfl 0 (by decide) hL23 (fun _ h9 => h9) rfl d_Table_init_39 ?_
  refine q_newa (atype := .int) (n := st) (ty := .int) (a0 := (S, .inl (fun _ => 0))) (N' := S) hx hb (hts (.arrayClass .int) (List.mem_cons_of_mem _ m_112)) rfl hK 0 rfl hP hD hS hA (fun _ => rfl) (by rw [hp]; exact nI_pos (by omega)) (by rw [hp]; exact nI_clamp (by omega)) (show S * 4 ≤ 536870912 by omega) (Nat.le_of_ble_eq_true rfl) (Nat.le_trans (Nat.add_le_add_left hS9 _) (Nat.le_of_ble_eq_true rfl)) d_Table_init_42 (fun q_tfit H hP hD hS => ?_)
  refine W.widen (k := 2) (n := 21032) (by omega) (by omega) ?_
  replace hP : va_P D vwCl [(h0, .inr (4, [.ref aw, .ref ai, .ref af, .ref q_tval, .null, .null])), (aw, .inr (1, [.int st, .ref a1, .ref a2, .int pc0])), (q_tval, .inl (ki 1, ((S + 1) * 64 * 8), .inr (.inl (fun _ => 0)))), (q_tfit, .inl (ki 0, S, .inl (fun _ => 0)))] H := hP
  replace hD : va_D A [(h0, .inr (4, [.ref aw, .ref ai, .ref af, .ref q_tval, .null, .null])), (aw, .inr (1, [.int st, .ref a1, .ref a2, .int pc0])), (q_tval, .inl (ki 1, ((S + 1) * 64 * 8), .inr (.inl (fun _ => 0)))), (q_tfit, .inl (ki 0, S, .inl (fun _ => 0)))] := hD
  refine va_putF (D := D) (ci := 4) (v := .ref q_tfit) (ty := (.array .int)) (C := R_Table) (T := F_Table) (N := 6) hx hb hts hn_Table t_Table t_Table_ok n_Table hown hK hP hD hS 0 rfl rfl 4 (by decide) hL33 (fun _ h9 => h9) rfl hin rfl (by decide +kernel) rfl rfl (Nat.le_of_ble_eq_true rfl) d_Table_init_44 (fun H locs hP hD hS => ?_)
  replace hP : va_P D vwCl [(h0, .inr (4, [.ref aw, .ref ai, .ref af, .ref q_tval, .ref q_tfit, .null])), (aw, .inr (1, [.int st, .ref a1, .ref a2, .int pc0])), (q_tval, .inl (ki 1, ((S + 1) * 64 * 8), .inr (.inl (fun _ => 0)))), (q_tfit, .inl (ki 0, S, .inl (fun _ => 0)))] H := hP
  replace hD : va_D A [(h0, .inr (4, [.ref aw, .ref ai, .ref af, .ref q_tval, .ref q_tfit, .null])), (aw, .inr (1, [.int st, .ref a1, .ref a2, .int pc0])), (q_tval, .inl (ki 1, ((S + 1) * 64 * 8), .inr (.inl (fun _ => 0)))), (q_tfit, .inl (ki 0, S, .inl (fun _ => 0)))] := hD
  refine lv_aload_n hx hb d_Table_init_47 rfl (lv_at hl 0 rfl) ?_
  refine lv_aload_n hx hb d_Table_init_48 rfl (lv_at hl 1 rfl) ?_
  refine va_get (D := D) (ci := 1) (v := .int st) (C := R_Wall) (T := F_Wall) (N := 4) hx hb hts hn_Wall hown hK hP 1 rfl rfl 0 (by decide) hL23 (fun _ h9 => h9) rfl d_Table_init_49 ?_
  refine q_newa (atype := .int) (n := st) (ty := .int) (a0 := (S, .inl (fun _ => 0))) (N' := S) hx hb (hts (.arrayClass .int) (List.mem_cons_of_mem _ m_112)) rfl hK 0 rfl hP hD hS hA (fun _ => rfl) (by rw [hp]; exact nI_pos (by omega)) (by rw [hp]; exact nI_clamp (by omega)) (show S * 4 ≤ 536870912 by omega) (Nat.le_of_ble_eq_true rfl) (Nat.le_trans (Nat.add_le_add_left hS9 _) (Nat.le_of_ble_eq_true rfl)) d_Table_init_52 (fun q_tlon H hP hD hS => ?_)
  refine W.widen (k := 3) (n := 21072) (by omega) (by omega) ?_
  replace hP : va_P D vwCl [(h0, .inr (4, [.ref aw, .ref ai, .ref af, .ref q_tval, .ref q_tfit, .null])), (aw, .inr (1, [.int st, .ref a1, .ref a2, .int pc0])), (q_tval, .inl (ki 1, ((S + 1) * 64 * 8), .inr (.inl (fun _ => 0)))), (q_tfit, .inl (ki 0, S, .inl (fun _ => 0))), (q_tlon, .inl (ki 0, S, .inl (fun _ => 0)))] H := hP
  replace hD : va_D A [(h0, .inr (4, [.ref aw, .ref ai, .ref af, .ref q_tval, .ref q_tfit, .null])), (aw, .inr (1, [.int st, .ref a1, .ref a2, .int pc0])), (q_tval, .inl (ki 1, ((S + 1) * 64 * 8), .inr (.inl (fun _ => 0)))), (q_tfit, .inl (ki 0, S, .inl (fun _ => 0))), (q_tlon, .inl (ki 0, S, .inl (fun _ => 0)))] := hD
  refine va_putF (D := D) (ci := 4) (v := .ref q_tlon) (ty := (.array .int)) (C := R_Table) (T := F_Table) (N := 6) hx hb hts hn_Table t_Table t_Table_ok n_Table hown hK hP hD hS 0 rfl rfl 5 (by decide) hL37 (fun _ h9 => h9) rfl hin rfl (by decide +kernel) rfl rfl (Nat.le_of_ble_eq_true rfl) d_Table_init_54 (fun H locs hP hD hS => ?_)
  replace hP : va_P D vwCl [(h0, .inr (4, [.ref aw, .ref ai, .ref af, .ref q_tval, .ref q_tfit, .ref q_tlon])), (aw, .inr (1, [.int st, .ref a1, .ref a2, .int pc0])), (q_tval, .inl (ki 1, ((S + 1) * 64 * 8), .inr (.inl (fun _ => 0)))), (q_tfit, .inl (ki 0, S, .inl (fun _ => 0))), (q_tlon, .inl (ki 0, S, .inl (fun _ => 0)))] H := hP
  replace hD : va_D A [(h0, .inr (4, [.ref aw, .ref ai, .ref af, .ref q_tval, .ref q_tfit, .ref q_tlon])), (aw, .inr (1, [.int st, .ref a1, .ref a2, .int pc0])), (q_tval, .inl (ki 1, ((S + 1) * 64 * 8), .inr (.inl (fun _ => 0)))), (q_tfit, .inl (ki 0, S, .inl (fun _ => 0))), (q_tlon, .inl (ki 0, S, .inl (fun _ => 0)))] := hD
  exact W.vret hx hb hr (fun t ht hW => ⟨⟨(), rfl, trivial, q_tval, q_tfit, q_tlon, by rw [ht]; exact hP, hD⟩, hS.F ht⟩) hS.2.2 d_Table_init_57
set_option maxRecDepth 100000 in
set_option maxHeartbeats 4000000 in
theorem cc_Planner_init (l : Launch) (D : va_G) (ki : Nat → ClassId) (h0 : Nat) (aw : Nat) (ai : Nat) (af : Nat) (a1 : Nat) (a2 : Nat) (st : Int32) (pc0 : Int32) (S : Nat) (hS9 : S ≤ 40) (hp : st = nI S) (sz : Nat) : Met l y_Planner_init w_Planner_init { frames := 2, cells := 12, slots := 21359, locals := 40 } (q_PcM [.ref h0, .ref aw, .ref ai, .ref af] D vwCl [(h0, .inr (6, [.null, .null, .null, .null, .null, .int 0, .long 0, .long 0, .int 0, .int 0])), (aw, .inr (1, [.int st, .ref a1, .ref a2, .int pc0]))] (TYS ki) sz) (va_Qv (fun _ : Unit => True) (fun (_ : Unit) (t : State) => ∃ (q_tab q_tval q_tfit q_tlon q_plan q_ppi q_ppb q_pps q_ptb q_pts q_pbo q_tied : Nat), va_P D vwCl [(h0, .inr (6, [.ref aw, .ref ai, .ref q_tab, .ref q_plan, .ref q_tied, .int 0, .long 0, .long 0, .int 0, .int 0])), (q_tab, .inr (4, [.ref aw, .ref ai, .ref af, .ref q_tval, .ref q_tfit, .ref q_tlon])), (aw, .inr (1, [.int st, .ref a1, .ref a2, .int pc0])), (q_tval, .inl (ki 1, ((S + 1) * 64 * 8), .inr (.inl (fun _ => 0)))), (q_tfit, .inl (ki 0, S, .inl (fun _ => 0))), (q_tlon, .inl (ki 0, S, .inl (fun _ => 0))), (q_plan, .inr (5, [.ref q_ppi, .ref q_ppb, .ref q_pps, .ref q_ptb, .ref q_pts, .ref q_pbo, .int 0, .int 0, .int 0, .long 0, .long 0])), (q_ppi, .inl (ki 0, 40, .inl (fun _ => 0))), (q_ppb, .inl (ki 0, 40, .inl (fun _ => 0))), (q_pps, .inl (ki 0, 40, .inl (fun _ => 0))), (q_ptb, .inl (ki 0, 40, .inl (fun _ => 0))), (q_pts, .inl (ki 0, 40, .inl (fun _ => 0))), (q_pbo, .inl (ki 0, 6, .inl (fun _ => 0))), (q_tied, .inl (ki 0, 64, .inl (fun _ => 0)))] t.heap ∧ va_D (va_A [(h0, .inr (6, [.null, .null, .null, .null, .null, .int 0, .long 0, .long 0, .int 0, .int 0])), (aw, .inr (1, [.int st, .ref a1, .ref a2, .int pc0]))] sz) [(h0, .inr (6, [.ref aw, .ref ai, .ref q_tab, .ref q_plan, .ref q_tied, .int 0, .long 0, .long 0, .int 0, .int 0])), (q_tab, .inr (4, [.ref aw, .ref ai, .ref af, .ref q_tval, .ref q_tfit, .ref q_tlon])), (aw, .inr (1, [.int st, .ref a1, .ref a2, .int pc0])), (q_tval, .inl (ki 1, ((S + 1) * 64 * 8), .inr (.inl (fun _ => 0)))), (q_tfit, .inl (ki 0, S, .inl (fun _ => 0))), (q_tlon, .inl (ki 0, S, .inl (fun _ => 0))), (q_plan, .inr (5, [.ref q_ppi, .ref q_ppb, .ref q_pps, .ref q_ptb, .ref q_pts, .ref q_pbo, .int 0, .int 0, .int 0, .long 0, .long 0])), (q_ppi, .inl (ki 0, 40, .inl (fun _ => 0))), (q_ppb, .inl (ki 0, 40, .inl (fun _ => 0))), (q_pps, .inl (ki 0, 40, .inl (fun _ => 0))), (q_ptb, .inl (ki 0, 40, .inl (fun _ => 0))), (q_pts, .inl (ki 0, 40, .inl (fun _ => 0))), (q_pbo, .inl (ki 0, 6, .inl (fun _ => 0))), (q_tied, .inl (ki 0, 64, .inl (fun _ => 0)))]) (va_A [(h0, .inr (6, [.null, .null, .null, .null, .null, .int 0, .long 0, .long 0, .int 0, .int 0])), (aw, .inr (1, [.int st, .ref a1, .ref a2, .int pc0]))] sz)) 12 21359 (va_A [(h0, .inr (6, [.null, .null, .null, .null, .null, .int 0, .long 0, .long 0, .int 0, .int 0])), (aw, .inr (1, [.int st, .ref a1, .ref a2, .int pc0]))] sz) := by
  refine Met.ofW (cc := b_Planner_init) (maxL := 4) (ret := none) (by decide) rfl ?_
  intro p e s m args below meth c s₁ B hml hv
  obtain ⟨rfl, hsz, hP, hK, hD0, hE⟩ := hv
  have hx := B.exec
  have hb := B.bytes
  have hr := B.returns
  have hts := atoms_spec (ws := w_Planner_init) B.pre
  have hown : s.vm.findClass R_Planner = some m.cls := findClass_of_methodNamed B.named
  have hlocks := B.notSynchronized
  have hin : meth.name = "<init>" := (name_of_methodNamed B.named B.method).1
  have hn_Plan : ∀ w ∈ u_ws R_Plan F_Plan 11, w ∈ w_Planner_init := (fun w h => List.mem_cons_of_mem _ (i_Plan w h))
  have hn_Planner : ∀ w ∈ u_ws R_Planner F_Planner 10, w ∈ w_Planner_init := (fun w h => List.mem_cons_of_mem _ (i_Planner w h))
  have hn_Table : ∀ w ∈ u_ws R_Table F_Table 6, w ∈ w_Planner_init := (fun w h => List.mem_cons_of_mem _ (i_Table w h))
  have hL9 := hts (.fieldLink R_Planner 9 "RoomFills$Planner" "wall" "LRoomFills$Wall;") (List.mem_cons_of_mem _ m_264)
  have hL15 := hts (.fieldLink R_Planner 15 "RoomFills$Planner" "items" "LRoomFills$Items;") (List.mem_cons_of_mem _ m_265)
  have hL24 := hts (.fieldLink R_Planner 24 "RoomFills$Planner" "table" "LRoomFills$Table;") (List.mem_cons_of_mem _ m_266)
  have hL31 := hts (.fieldLink R_Planner 31 "RoomFills$Planner" "latest" "LRoomFills$Plan;") (List.mem_cons_of_mem _ m_268)
  have hL35 := hts (.fieldLink R_Planner 35 "RoomFills$Planner" "tiedSets" "[I") (List.mem_cons_of_mem _ m_270)
  subst hsz
  have hD := hD0.self (sz := s.heap.size)
  generalize hAe : va_A [(h0, .inr (6, [.null, .null, .null, .null, .null, .int 0, .long 0, .long 0, .int 0, .int 0])), (aw, .inr (1, [.int st, .ref a1, .ref a2, .int pc0]))] s.heap.size = A at hD ⊢
  have hA : ∀ q : Nat, s.heap.size ≤ q → A q := fun q h => by rw [← hAe]; exact Or.inr h
  have hS : va_S A s.heap s.heap [] := va_S.rf
  replace hP : va_P D vwCl [(h0, .inr (6, [.null, .null, .null, .null, .null, .int 0, .long 0, .long 0, .int 0, .int 0])), (aw, .inr (1, [.int st, .ref a1, .ref a2, .int pc0]))] s.heap := hP
  have hl := lv_entry ([.ref h0, .ref aw, .ref ai, .ref af]) (n := 4) (Nat.le_of_ble_eq_true rfl)
  rw [lg_entry_eq]
  generalize (lg_sl ([.ref h0, .ref aw, .ref ai, .ref af]) ++ List.replicate (4 - (lg_sl ([.ref h0, .ref aw, .ref ai, .ref af])).length) Slot.unset).toArray = ls at hl ⊢
  replace hl : lv_has ls 4 [(0, .ref h0), (1, .ref aw), (2, .ref ai), (3, .ref af)] := hl
  refine lv_aload_n hx hb d_Planner_init_0 rfl (lv_at hl 0 rfl) ?_
  refine W.objInit hx hb hown (hts (.methodLink R_Planner 3 objectInit) (List.mem_cons_of_mem _ m_184)) (hts (.instanceMethod objectInit) (List.mem_cons_of_mem _ m_78)) (hts _ (List.mem_cons_of_mem _ m_79)) rfl (by rw [hml]; exact hl.1) rfl d_Planner_init_1 (Nat.le_of_ble_eq_true rfl) (Nat.le_of_ble_eq_true rfl) ?_
  refine W.eq (g2 := F0 m 4 ls []) rfl ?_
  refine lv_aload_n hx hb d_Planner_init_4 rfl (lv_at hl 0 rfl) ?_
  refine lv_aload_n hx hb d_Planner_init_5 rfl (lv_at hl 1 rfl) ?_
  refine va_putF (D := D) (ci := 6) (v := .ref aw) (ty := (.object "RoomFills$Wall")) (C := R_Planner) (T := F_Planner) (N := 10) hx hb hts hn_Planner t_Planner t_Planner_ok n_Planner hown hK hP hD hS 0 rfl rfl 0 (by decide) hL9 (fun _ h9 => h9) rfl hin rfl (by decide +kernel) rfl rfl (Nat.le_of_ble_eq_true rfl) d_Planner_init_6 (fun H locs hP hD hS => ?_)
  replace hP : va_P D vwCl [(h0, .inr (6, [.ref aw, .null, .null, .null, .null, .int 0, .long 0, .long 0, .int 0, .int 0])), (aw, .inr (1, [.int st, .ref a1, .ref a2, .int pc0]))] H := hP
  replace hD : va_D A [(h0, .inr (6, [.ref aw, .null, .null, .null, .null, .int 0, .long 0, .long 0, .int 0, .int 0])), (aw, .inr (1, [.int st, .ref a1, .ref a2, .int pc0]))] := hD
  refine lv_aload_n hx hb d_Planner_init_9 rfl (lv_at hl 0 rfl) ?_
  refine lv_aload_n hx hb d_Planner_init_10 rfl (lv_at hl 2 rfl) ?_
  refine va_putF (D := D) (ci := 6) (v := .ref ai) (ty := (.object "RoomFills$Items")) (C := R_Planner) (T := F_Planner) (N := 10) hx hb hts hn_Planner t_Planner t_Planner_ok n_Planner hown hK hP hD hS 0 rfl rfl 1 (by decide) hL15 (fun _ h9 => h9) rfl hin rfl (by decide +kernel) rfl rfl (Nat.le_of_ble_eq_true rfl) d_Planner_init_11 (fun H locs hP hD hS => ?_)
  replace hP : va_P D vwCl [(h0, .inr (6, [.ref aw, .ref ai, .null, .null, .null, .int 0, .long 0, .long 0, .int 0, .int 0])), (aw, .inr (1, [.int st, .ref a1, .ref a2, .int pc0]))] H := hP
  replace hD : va_D A [(h0, .inr (6, [.ref aw, .ref ai, .null, .null, .null, .int 0, .long 0, .long 0, .int 0, .int 0])), (aw, .inr (1, [.int st, .ref a1, .ref a2, .int pc0]))] := hD
  refine lv_aload_n hx hb d_Planner_init_14 rfl (lv_at hl 0 rfl) ?_
  refine va_new (ci := 4) (fs := [.null, .null, .null, .null, .null, .null]) (C := R_Table) (T := F_Table) (N := 6) hx hb hts hn_Table t_Table t_Table_ok hown (hts (.classLink R_Planner 19 R_Table) (List.mem_cons_of_mem _ m_185)) (hts (.instantiable R_Table 6) (List.mem_cons_of_mem _ m_186)) (hts (.initialized R_Table) (List.mem_cons_of_mem _ m_60)) hK hP hD hS hA rfl (fun j hj => by rcases (show j = 0 ∨ j = 1 ∨ j = 2 ∨ j = 3 ∨ j = 4 ∨ j = 5 by omega) with rfl | rfl | rfl | rfl | rfl | rfl <;> rfl) (Nat.le_of_ble_eq_true rfl) (Nat.le_of_ble_eq_true rfl) d_Planner_init_15 (fun q_tab H hP hD hS => ?_)
  replace hP : va_P D vwCl [(h0, .inr (6, [.ref aw, .ref ai, .null, .null, .null, .int 0, .long 0, .long 0, .int 0, .int 0])), (aw, .inr (1, [.int st, .ref a1, .ref a2, .int pc0])), (q_tab, .inr (4, [.null, .null, .null, .null, .null, .null]))] H := hP
  replace hD : va_D A [(h0, .inr (6, [.ref aw, .ref ai, .null, .null, .null, .int 0, .long 0, .long 0, .int 0, .int 0])), (aw, .inr (1, [.int st, .ref a1, .ref a2, .int pc0])), (q_tab, .inr (4, [.null, .null, .null, .null, .null, .null]))] := hD
  refine W.widen (k := 1) (n := 6) (by omega) (by omega) ?_
  refine lv_dup hx hb d_Planner_init_18 rfl ?_
  refine lv_aload_n hx hb d_Planner_init_19 rfl (lv_at hl 1 rfl) ?_
  refine lv_aload_n hx hb d_Planner_init_20 rfl (lv_at hl 2 rfl) ?_
  refine lv_aload_n hx hb d_Planner_init_21 rfl (lv_at hl 3 rfl) ?_
  have hPc := hP.sub (ws' := [(q_tab, .inr (4, [.null, .null, .null, .null, .null, .null])), (aw, .inr (1, [.int st, .ref a1, .ref a2, .int pc0]))]) [2, 1] rfl
  have hDc := hD.sub (ws' := [(q_tab, .inr (4, [.null, .null, .null, .null, .null, .null])), (aw, .inr (1, [.int st, .ref a1, .ref a2, .int pc0]))]) [2, 1] (by decide) rfl
  have hFc := va_free (wc := [(q_tab, .inr (4, [.null, .null, .null, .null, .null, .null])), (aw, .inr (1, [.int st, .ref a1, .ref a2, .int pc0]))]) hD hS hA [2, 1] rfl
  refine va_callv (va_runI (As := [.ref aw, .ref ai, .ref af]) (rest := [.ref q_tab, .ref h0]) ⟨hx, hb, hml, hown, hts⟩ (cc_Table_init l D ki q_tab aw ai af a1 a2 st pc0 S hS9 hp H.size) (cwI 3 hts (q_goodI m_189) rfl rfl rfl (hts (.initialized R_Table) (List.mem_cons_of_mem _ m_60)) (hts (.methodLink R_Planner 21 y_Table_init) (List.mem_cons_of_mem _ m_187)) (hts (.instanceMethod y_Table_init) (List.mem_cons_of_mem _ m_188)) rfl (by decide +kernel) ⟨Nat.le_of_ble_eq_true rfl, Nat.le_of_ble_eq_true rfl⟩) ⟨q_blM, fun U hU hW => ⟨rfl, by rw [hU], by rw [hU]; exact hPc, va_K.moved hW.alike hK, hDc.weaken (fun _ _ _ _ => trivial), hE.warm hW⟩⟩ rfl rfl hl.1 rfl (lv_room (Nat.le_of_ble_eq_true rfl)) d_Planner_init_22 ⟨(Nat.le_of_ble_eq_true rfl), (Nat.le_of_ble_eq_true rfl)⟩) hS (fun q _ h => hFc q h) hFc (fun u t H1 locs ht hvm hw hB hz1 hk1 hS => ?_)
  obtain ⟨q_tval, q_tfit, q_tlon, hP1, hD1⟩ := hB
  rw [ht] at hP1
  obtain ⟨hP2, hD2⟩ := va_join (wr := [(h0, .inr (6, [.ref aw, .ref ai, .null, .null, .null, .int 0, .long 0, .long 0, .int 0, .int 0]))]) (w1 := [(q_tab, .inr (4, [.ref aw, .ref ai, .ref af, .ref q_tval, .ref q_tfit, .ref q_tlon])), (aw, .inr (1, [.int st, .ref a1, .ref a2, .int pc0])), (q_tval, .inl (ki 1, ((S + 1) * 64 * 8), .inr (.inl (fun _ => 0)))), (q_tfit, .inl (ki 0, S, .inl (fun _ => 0))), (q_tlon, .inl (ki 0, S, .inl (fun _ => 0)))]) hP hD [2, 1] [0] rfl rfl (by decide) (by decide) hk1 hFc hP1 hD1
  generalize H1 = H at hP2 hS ⊢
  have hP : va_P D vwCl [(h0, .inr (6, [.ref aw, .ref ai, .null, .null, .null, .int 0, .long 0, .long 0, .int 0, .int 0])), (q_tab, .inr (4, [.ref aw, .ref ai, .ref af, .ref q_tval, .ref q_tfit, .ref q_tlon])), (aw, .inr (1, [.int st, .ref a1, .ref a2, .int pc0])), (q_tval, .inl (ki 1, ((S + 1) * 64 * 8), .inr (.inl (fun _ => 0)))), (q_tfit, .inl (ki 0, S, .inl (fun _ => 0))), (q_tlon, .inl (ki 0, S, .inl (fun _ => 0)))] H := hP2
  have hD : va_D _ [(h0, .inr (6, [.ref aw, .ref ai, .null, .null, .null, .int 0, .long 0, .long 0, .int 0, .int 0])), (q_tab, .inr (4, [.ref aw, .ref ai, .ref af, .ref q_tval, .ref q_tfit, .ref q_tlon])), (aw, .inr (1, [.int st, .ref a1, .ref a2, .int pc0])), (q_tval, .inl (ki 1, ((S + 1) * 64 * 8), .inr (.inl (fun _ => 0)))), (q_tfit, .inl (ki 0, S, .inl (fun _ => 0))), (q_tlon, .inl (ki 0, S, .inl (fun _ => 0)))] := hD2
  refine W.widen (k := 4) (n := 21078) (by omega) (by omega) ?_
  refine va_putF (D := D) (ci := 6) (v := .ref q_tab) (ty := (.object "RoomFills$Table")) (C := R_Planner) (T := F_Planner) (N := 10) hx hb hts hn_Planner t_Planner t_Planner_ok n_Planner hown hK hP hD hS 0 rfl rfl 2 (by decide) hL24 (fun _ h9 => h9) rfl hin rfl (by decide +kernel) rfl rfl (Nat.le_of_ble_eq_true rfl) d_Planner_init_25 (fun H locs hP hD hS => ?_)
  replace hP : va_P D vwCl [(h0, .inr (6, [.ref aw, .ref ai, .ref q_tab, .null, .null, .int 0, .long 0, .long 0, .int 0, .int 0])), (q_tab, .inr (4, [.ref aw, .ref ai, .ref af, .ref q_tval, .ref q_tfit, .ref q_tlon])), (aw, .inr (1, [.int st, .ref a1, .ref a2, .int pc0])), (q_tval, .inl (ki 1, ((S + 1) * 64 * 8), .inr (.inl (fun _ => 0)))), (q_tfit, .inl (ki 0, S, .inl (fun _ => 0))), (q_tlon, .inl (ki 0, S, .inl (fun _ => 0)))] H := hP
  replace hD : va_D A [(h0, .inr (6, [.ref aw, .ref ai, .ref q_tab, .null, .null, .int 0, .long 0, .long 0, .int 0, .int 0])), (q_tab, .inr (4, [.ref aw, .ref ai, .ref af, .ref q_tval, .ref q_tfit, .ref q_tlon])), (aw, .inr (1, [.int st, .ref a1, .ref a2, .int pc0])), (q_tval, .inl (ki 1, ((S + 1) * 64 * 8), .inr (.inl (fun _ => 0)))), (q_tfit, .inl (ki 0, S, .inl (fun _ => 0))), (q_tlon, .inl (ki 0, S, .inl (fun _ => 0)))] := hD
  refine lv_aload_n hx hb d_Planner_init_28 rfl (lv_at hl 0 rfl) ?_
  refine va_new (ci := 5) (fs := [.null, .null, .null, .null, .null, .null, .int 0, .int 0, .int 0, .long 0, .long 0]) (C := R_Plan) (T := F_Plan) (N := 11) hx hb hts hn_Plan t_Plan t_Plan_ok hown (hts (.classLink R_Planner 28 R_Plan) (List.mem_cons_of_mem _ m_212)) (hts (.instantiable R_Plan 11) (List.mem_cons_of_mem _ m_213)) (hts (.initialized R_Plan) (List.mem_cons_of_mem _ m_61)) hK hP hD hS hA rfl (fun j hj => by rcases (show j = 0 ∨ j = 1 ∨ j = 2 ∨ j = 3 ∨ j = 4 ∨ j = 5 ∨ j = 6 ∨ j = 7 ∨ j = 8 ∨ j = 9 ∨ j = 10 by omega) with rfl | rfl | rfl | rfl | rfl | rfl | rfl | rfl | rfl | rfl | rfl <;> rfl) (Nat.le_of_ble_eq_true rfl) (Nat.le_of_ble_eq_true rfl) d_Planner_init_29 (fun q_plan H hP hD hS => ?_)
  replace hP : va_P D vwCl [(h0, .inr (6, [.ref aw, .ref ai, .ref q_tab, .null, .null, .int 0, .long 0, .long 0, .int 0, .int 0])), (q_tab, .inr (4, [.ref aw, .ref ai, .ref af, .ref q_tval, .ref q_tfit, .ref q_tlon])), (aw, .inr (1, [.int st, .ref a1, .ref a2, .int pc0])), (q_tval, .inl (ki 1, ((S + 1) * 64 * 8), .inr (.inl (fun _ => 0)))), (q_tfit, .inl (ki 0, S, .inl (fun _ => 0))), (q_tlon, .inl (ki 0, S, .inl (fun _ => 0))), (q_plan, .inr (5, [.null, .null, .null, .null, .null, .null, .int 0, .int 0, .int 0, .long 0, .long 0]))] H := hP
  replace hD : va_D A [(h0, .inr (6, [.ref aw, .ref ai, .ref q_tab, .null, .null, .int 0, .long 0, .long 0, .int 0, .int 0])), (q_tab, .inr (4, [.ref aw, .ref ai, .ref af, .ref q_tval, .ref q_tfit, .ref q_tlon])), (aw, .inr (1, [.int st, .ref a1, .ref a2, .int pc0])), (q_tval, .inl (ki 1, ((S + 1) * 64 * 8), .inr (.inl (fun _ => 0)))), (q_tfit, .inl (ki 0, S, .inl (fun _ => 0))), (q_tlon, .inl (ki 0, S, .inl (fun _ => 0))), (q_plan, .inr (5, [.null, .null, .null, .null, .null, .null, .int 0, .int 0, .int 0, .long 0, .long 0]))] := hD
  refine W.widen (k := 5) (n := 21089) (by omega) (by omega) ?_
  refine lv_dup hx hb d_Planner_init_32 rfl ?_
  have hPc := hP.sub (ws' := [(q_plan, .inr (5, [.null, .null, .null, .null, .null, .null, .int 0, .int 0, .int 0, .long 0, .long 0]))]) [6] rfl
  have hDc := hD.sub (ws' := [(q_plan, .inr (5, [.null, .null, .null, .null, .null, .null, .int 0, .int 0, .int 0, .long 0, .long 0]))]) [6] (by decide) rfl
  have hFc := va_free (wc := [(q_plan, .inr (5, [.null, .null, .null, .null, .null, .null, .int 0, .int 0, .int 0, .long 0, .long 0]))]) hD hS hA [6] rfl
  refine va_callv (va_runI (As := []) (rest := [.ref q_plan, .ref h0]) ⟨hx, hb, hml, hown, hts⟩ (cc_Plan_init l D ki q_plan  H.size) (cwI 0 hts (q_goodI m_216) rfl rfl rfl (hts (.initialized R_Plan) (List.mem_cons_of_mem _ m_61)) (hts (.methodLink R_Planner 30 y_Plan_init) (List.mem_cons_of_mem _ m_214)) (hts (.instanceMethod y_Plan_init) (List.mem_cons_of_mem _ m_215)) rfl (by decide +kernel) ⟨Nat.le_of_ble_eq_true rfl, Nat.le_of_ble_eq_true rfl⟩) ⟨q_blM, fun U hU hW => ⟨rfl, by rw [hU], by rw [hU]; exact hPc, va_K.moved hW.alike hK, hDc.weaken (fun _ _ _ _ => trivial), hE.warm hW⟩⟩ rfl rfl hl.1 rfl (lv_room (Nat.le_of_ble_eq_true rfl)) d_Planner_init_33 ⟨(Nat.le_of_ble_eq_true rfl), (Nat.le_of_ble_eq_true rfl)⟩) hS (fun q _ h => hFc q h) hFc (fun u t H1 locs ht hvm hw hB hz1 hk1 hS => ?_)
  obtain ⟨q_ppi, q_ppb, q_pps, q_ptb, q_pts, q_pbo, hP1, hD1⟩ := hB
  rw [ht] at hP1
  obtain ⟨hP2, hD2⟩ := va_join (wr := [(h0, .inr (6, [.ref aw, .ref ai, .ref q_tab, .null, .null, .int 0, .long 0, .long 0, .int 0, .int 0])), (q_tab, .inr (4, [.ref aw, .ref ai, .ref af, .ref q_tval, .ref q_tfit, .ref q_tlon])), (aw, .inr (1, [.int st, .ref a1, .ref a2, .int pc0])), (q_tval, .inl (ki 1, ((S + 1) * 64 * 8), .inr (.inl (fun _ => 0)))), (q_tfit, .inl (ki 0, S, .inl (fun _ => 0))), (q_tlon, .inl (ki 0, S, .inl (fun _ => 0)))]) (w1 := [(q_plan, .inr (5, [.ref q_ppi, .ref q_ppb, .ref q_pps, .ref q_ptb, .ref q_pts, .ref q_pbo, .int 0, .int 0, .int 0, .long 0, .long 0])), (q_ppi, .inl (ki 0, 40, .inl (fun _ => 0))), (q_ppb, .inl (ki 0, 40, .inl (fun _ => 0))), (q_pps, .inl (ki 0, 40, .inl (fun _ => 0))), (q_ptb, .inl (ki 0, 40, .inl (fun _ => 0))), (q_pts, .inl (ki 0, 40, .inl (fun _ => 0))), (q_pbo, .inl (ki 0, 6, .inl (fun _ => 0)))]) hP hD [6] [0, 1, 2, 3, 4, 5] rfl rfl (by decide) (by decide) hk1 hFc hP1 hD1
  generalize H1 = H at hP2 hS ⊢
  have hP : va_P D vwCl [(h0, .inr (6, [.ref aw, .ref ai, .ref q_tab, .null, .null, .int 0, .long 0, .long 0, .int 0, .int 0])), (q_tab, .inr (4, [.ref aw, .ref ai, .ref af, .ref q_tval, .ref q_tfit, .ref q_tlon])), (aw, .inr (1, [.int st, .ref a1, .ref a2, .int pc0])), (q_tval, .inl (ki 1, ((S + 1) * 64 * 8), .inr (.inl (fun _ => 0)))), (q_tfit, .inl (ki 0, S, .inl (fun _ => 0))), (q_tlon, .inl (ki 0, S, .inl (fun _ => 0))), (q_plan, .inr (5, [.ref q_ppi, .ref q_ppb, .ref q_pps, .ref q_ptb, .ref q_pts, .ref q_pbo, .int 0, .int 0, .int 0, .long 0, .long 0])), (q_ppi, .inl (ki 0, 40, .inl (fun _ => 0))), (q_ppb, .inl (ki 0, 40, .inl (fun _ => 0))), (q_pps, .inl (ki 0, 40, .inl (fun _ => 0))), (q_ptb, .inl (ki 0, 40, .inl (fun _ => 0))), (q_pts, .inl (ki 0, 40, .inl (fun _ => 0))), (q_pbo, .inl (ki 0, 6, .inl (fun _ => 0)))] H := hP2
  have hD : va_D _ [(h0, .inr (6, [.ref aw, .ref ai, .ref q_tab, .null, .null, .int 0, .long 0, .long 0, .int 0, .int 0])), (q_tab, .inr (4, [.ref aw, .ref ai, .ref af, .ref q_tval, .ref q_tfit, .ref q_tlon])), (aw, .inr (1, [.int st, .ref a1, .ref a2, .int pc0])), (q_tval, .inl (ki 1, ((S + 1) * 64 * 8), .inr (.inl (fun _ => 0)))), (q_tfit, .inl (ki 0, S, .inl (fun _ => 0))), (q_tlon, .inl (ki 0, S, .inl (fun _ => 0))), (q_plan, .inr (5, [.ref q_ppi, .ref q_ppb, .ref q_pps, .ref q_ptb, .ref q_pts, .ref q_pbo, .int 0, .int 0, .int 0, .long 0, .long 0])), (q_ppi, .inl (ki 0, 40, .inl (fun _ => 0))), (q_ppb, .inl (ki 0, 40, .inl (fun _ => 0))), (q_pps, .inl (ki 0, 40, .inl (fun _ => 0))), (q_ptb, .inl (ki 0, 40, .inl (fun _ => 0))), (q_pts, .inl (ki 0, 40, .inl (fun _ => 0))), (q_pbo, .inl (ki 0, 6, .inl (fun _ => 0)))] := hD2
  refine W.widen (k := 11) (n := 21295) (by omega) (by omega) ?_
  refine va_putF (D := D) (ci := 6) (v := .ref q_plan) (ty := (.object "RoomFills$Plan")) (C := R_Planner) (T := F_Planner) (N := 10) hx hb hts hn_Planner t_Planner t_Planner_ok n_Planner hown hK hP hD hS 0 rfl rfl 3 (by decide) hL31 (fun _ h9 => h9) rfl hin rfl (by decide +kernel) rfl rfl (Nat.le_of_ble_eq_true rfl) d_Planner_init_36 (fun H locs hP hD hS => ?_)
  replace hP : va_P D vwCl [(h0, .inr (6, [.ref aw, .ref ai, .ref q_tab, .ref q_plan, .null, .int 0, .long 0, .long 0, .int 0, .int 0])), (q_tab, .inr (4, [.ref aw, .ref ai, .ref af, .ref q_tval, .ref q_tfit, .ref q_tlon])), (aw, .inr (1, [.int st, .ref a1, .ref a2, .int pc0])), (q_tval, .inl (ki 1, ((S + 1) * 64 * 8), .inr (.inl (fun _ => 0)))), (q_tfit, .inl (ki 0, S, .inl (fun _ => 0))), (q_tlon, .inl (ki 0, S, .inl (fun _ => 0))), (q_plan, .inr (5, [.ref q_ppi, .ref q_ppb, .ref q_pps, .ref q_ptb, .ref q_pts, .ref q_pbo, .int 0, .int 0, .int 0, .long 0, .long 0])), (q_ppi, .inl (ki 0, 40, .inl (fun _ => 0))), (q_ppb, .inl (ki 0, 40, .inl (fun _ => 0))), (q_pps, .inl (ki 0, 40, .inl (fun _ => 0))), (q_ptb, .inl (ki 0, 40, .inl (fun _ => 0))), (q_pts, .inl (ki 0, 40, .inl (fun _ => 0))), (q_pbo, .inl (ki 0, 6, .inl (fun _ => 0)))] H := hP
  replace hD : va_D A [(h0, .inr (6, [.ref aw, .ref ai, .ref q_tab, .ref q_plan, .null, .int 0, .long 0, .long 0, .int 0, .int 0])), (q_tab, .inr (4, [.ref aw, .ref ai, .ref af, .ref q_tval, .ref q_tfit, .ref q_tlon])), (aw, .inr (1, [.int st, .ref a1, .ref a2, .int pc0])), (q_tval, .inl (ki 1, ((S + 1) * 64 * 8), .inr (.inl (fun _ => 0)))), (q_tfit, .inl (ki 0, S, .inl (fun _ => 0))), (q_tlon, .inl (ki 0, S, .inl (fun _ => 0))), (q_plan, .inr (5, [.ref q_ppi, .ref q_ppb, .ref q_pps, .ref q_ptb, .ref q_pts, .ref q_pbo, .int 0, .int 0, .int 0, .long 0, .long 0])), (q_ppi, .inl (ki 0, 40, .inl (fun _ => 0))), (q_ppb, .inl (ki 0, 40, .inl (fun _ => 0))), (q_pps, .inl (ki 0, 40, .inl (fun _ => 0))), (q_ptb, .inl (ki 0, 40, .inl (fun _ => 0))), (q_pts, .inl (ki 0, 40, .inl (fun _ => 0))), (q_pbo, .inl (ki 0, 6, .inl (fun _ => 0)))] := hD
  refine lv_aload_n hx hb d_Planner_init_39 rfl (lv_at hl 0 rfl) ?_
  refine lv_bipush (v := 64) hx hb d_Planner_init_40 (by decide) ?_
  refine q_newa (atype := .int) (n := 64) (ty := .int) (a0 := (64, .inl (fun _ => 0))) (N' := 64) hx hb (hts (.arrayClass .int) (List.mem_cons_of_mem _ m_112)) rfl hK 0 rfl hP hD hS hA (fun _ => rfl) (by decide) (by decide) (show 64 * 4 ≤ 536870912 by omega) (Nat.le_of_ble_eq_true rfl) (Nat.le_of_ble_eq_true rfl) d_Planner_init_42 (fun q_tied H hP hD hS => ?_)
  refine W.widen (k := 12) (n := 21359) (by omega) (by omega) ?_
  replace hP : va_P D vwCl [(h0, .inr (6, [.ref aw, .ref ai, .ref q_tab, .ref q_plan, .null, .int 0, .long 0, .long 0, .int 0, .int 0])), (q_tab, .inr (4, [.ref aw, .ref ai, .ref af, .ref q_tval, .ref q_tfit, .ref q_tlon])), (aw, .inr (1, [.int st, .ref a1, .ref a2, .int pc0])), (q_tval, .inl (ki 1, ((S + 1) * 64 * 8), .inr (.inl (fun _ => 0)))), (q_tfit, .inl (ki 0, S, .inl (fun _ => 0))), (q_tlon, .inl (ki 0, S, .inl (fun _ => 0))), (q_plan, .inr (5, [.ref q_ppi, .ref q_ppb, .ref q_pps, .ref q_ptb, .ref q_pts, .ref q_pbo, .int 0, .int 0, .int 0, .long 0, .long 0])), (q_ppi, .inl (ki 0, 40, .inl (fun _ => 0))), (q_ppb, .inl (ki 0, 40, .inl (fun _ => 0))), (q_pps, .inl (ki 0, 40, .inl (fun _ => 0))), (q_ptb, .inl (ki 0, 40, .inl (fun _ => 0))), (q_pts, .inl (ki 0, 40, .inl (fun _ => 0))), (q_pbo, .inl (ki 0, 6, .inl (fun _ => 0))), (q_tied, .inl (ki 0, 64, .inl (fun _ => 0)))] H := hP
  replace hD : va_D A [(h0, .inr (6, [.ref aw, .ref ai, .ref q_tab, .ref q_plan, .null, .int 0, .long 0, .long 0, .int 0, .int 0])), (q_tab, .inr (4, [.ref aw, .ref ai, .ref af, .ref q_tval, .ref q_tfit, .ref q_tlon])), (aw, .inr (1, [.int st, .ref a1, .ref a2, .int pc0])), (q_tval, .inl (ki 1, ((S + 1) * 64 * 8), .inr (.inl (fun _ => 0)))), (q_tfit, .inl (ki 0, S, .inl (fun _ => 0))), (q_tlon, .inl (ki 0, S, .inl (fun _ => 0))), (q_plan, .inr (5, [.ref q_ppi, .ref q_ppb, .ref q_pps, .ref q_ptb, .ref q_pts, .ref q_pbo, .int 0, .int 0, .int 0, .long 0, .long 0])), (q_ppi, .inl (ki 0, 40, .inl (fun _ => 0))), (q_ppb, .inl (ki 0, 40, .inl (fun _ => 0))), (q_pps, .inl (ki 0, 40, .inl (fun _ => 0))), (q_ptb, .inl (ki 0, 40, .inl (fun _ => 0))), (q_pts, .inl (ki 0, 40, .inl (fun _ => 0))), (q_pbo, .inl (ki 0, 6, .inl (fun _ => 0))), (q_tied, .inl (ki 0, 64, .inl (fun _ => 0)))] := hD
  refine va_putF (D := D) (ci := 6) (v := .ref q_tied) (ty := (.array .int)) (C := R_Planner) (T := F_Planner) (N := 10) hx hb hts hn_Planner t_Planner t_Planner_ok n_Planner hown hK hP hD hS 0 rfl rfl 4 (by decide) hL35 (fun _ h9 => h9) rfl hin rfl (by decide +kernel) rfl rfl (Nat.le_of_ble_eq_true rfl) d_Planner_init_44 (fun H locs hP hD hS => ?_)
  replace hP : va_P D vwCl [(h0, .inr (6, [.ref aw, .ref ai, .ref q_tab, .ref q_plan, .ref q_tied, .int 0, .long 0, .long 0, .int 0, .int 0])), (q_tab, .inr (4, [.ref aw, .ref ai, .ref af, .ref q_tval, .ref q_tfit, .ref q_tlon])), (aw, .inr (1, [.int st, .ref a1, .ref a2, .int pc0])), (q_tval, .inl (ki 1, ((S + 1) * 64 * 8), .inr (.inl (fun _ => 0)))), (q_tfit, .inl (ki 0, S, .inl (fun _ => 0))), (q_tlon, .inl (ki 0, S, .inl (fun _ => 0))), (q_plan, .inr (5, [.ref q_ppi, .ref q_ppb, .ref q_pps, .ref q_ptb, .ref q_pts, .ref q_pbo, .int 0, .int 0, .int 0, .long 0, .long 0])), (q_ppi, .inl (ki 0, 40, .inl (fun _ => 0))), (q_ppb, .inl (ki 0, 40, .inl (fun _ => 0))), (q_pps, .inl (ki 0, 40, .inl (fun _ => 0))), (q_ptb, .inl (ki 0, 40, .inl (fun _ => 0))), (q_pts, .inl (ki 0, 40, .inl (fun _ => 0))), (q_pbo, .inl (ki 0, 6, .inl (fun _ => 0))), (q_tied, .inl (ki 0, 64, .inl (fun _ => 0)))] H := hP
  replace hD : va_D A [(h0, .inr (6, [.ref aw, .ref ai, .ref q_tab, .ref q_plan, .ref q_tied, .int 0, .long 0, .long 0, .int 0, .int 0])), (q_tab, .inr (4, [.ref aw, .ref ai, .ref af, .ref q_tval, .ref q_tfit, .ref q_tlon])), (aw, .inr (1, [.int st, .ref a1, .ref a2, .int pc0])), (q_tval, .inl (ki 1, ((S + 1) * 64 * 8), .inr (.inl (fun _ => 0)))), (q_tfit, .inl (ki 0, S, .inl (fun _ => 0))), (q_tlon, .inl (ki 0, S, .inl (fun _ => 0))), (q_plan, .inr (5, [.ref q_ppi, .ref q_ppb, .ref q_pps, .ref q_ptb, .ref q_pts, .ref q_pbo, .int 0, .int 0, .int 0, .long 0, .long 0])), (q_ppi, .inl (ki 0, 40, .inl (fun _ => 0))), (q_ppb, .inl (ki 0, 40, .inl (fun _ => 0))), (q_pps, .inl (ki 0, 40, .inl (fun _ => 0))), (q_ptb, .inl (ki 0, 40, .inl (fun _ => 0))), (q_pts, .inl (ki 0, 40, .inl (fun _ => 0))), (q_pbo, .inl (ki 0, 6, .inl (fun _ => 0))), (q_tied, .inl (ki 0, 64, .inl (fun _ => 0)))] := hD
  exact W.vret hx hb hr (fun t ht hW => ⟨⟨(), rfl, trivial, q_tab, q_tval, q_tfit, q_tlon, q_plan, q_ppi, q_ppb, q_pps, q_ptb, q_pts, q_pbo, q_tied, by rw [ht]; exact hP, hD⟩, hS.F ht⟩) hS.2.2 d_Planner_init_47
