def f_Items_add_cut (N : Nat) (n_iwid : Nat) (n_inee : Nat) (n_iswi : Nat) (n_iswo : Nat) (n_isce : Nat) (v_items_mustSet : Int32) : Nat → Nat → Int32 → Int64 → Int64 → Int32 → Int32 → Int32 → (Int32) → (Nat → Int32) → (Nat → Int32) → (Nat → Int32) → (Nat → Int64) → (Nat → Int64) → Option (Int32 × Int32 × (Nat → Int32) × (Nat → Int32) × (Nat → Int32) × (Nat → Int64) × (Nat → Int64))
  | 0, _, _, _, _, _, _, _, _, _, _, _, _, _ => none
  | n + 1, t, x1, x2, x4, x6, x7, x8, v_items_count, v_iwid, v_inee, v_iswi, v_iswo, v_isce => (if x7 ≤ x8 then (some (x6, (v_items_count + 1), v_iwid, v_inee, v_iswi, v_iswo, v_isce)) else (if x8 < 0 ∨ n_iswi ≤ Int32.toNatClampNeg x8 then none else (if (x7 + x8) < 0 ∨ n_iswi ≤ Int32.toNatClampNeg (x7 + x8) then none else (if x8 < 0 ∨ n_iswo ≤ Int32.toNatClampNeg x8 then none else (if (x7 + x8) < 0 ∨ n_iswo ≤ Int32.toNatClampNeg (x7 + x8) then none else (if x8 < 0 ∨ n_isce ≤ Int32.toNatClampNeg x8 then none else (if (x7 + x8) < 0 ∨ n_isce ≤ Int32.toNatClampNeg (x7 + x8) then none else (f_Items_add_cut N n_iwid n_inee n_iswi n_iswo n_isce v_items_mustSet n 0 x1 x2 x4 x6 x7 (x8 + 1) v_items_count v_iwid v_inee (upd v_iswi (Int32.toNatClampNeg (x7 + x8)) ((v_iswi (Int32.toNatClampNeg x8)) + x1)) (vp_updL v_iswo (Int32.toNatClampNeg (x7 + x8)) ((v_iswo (Int32.toNatClampNeg x8)) + x2)) (vp_updL v_isce (Int32.toNatClampNeg (x7 + x8)) ((v_isce (Int32.toNatClampNeg x8)) + x4))))))))))
theorem f_Items_add_cut_0 (N : Nat) (n_iwid : Nat) (n_inee : Nat) (n_iswi : Nat) (n_iswo : Nat) (n_isce : Nat) (v_items_mustSet : Int32) (n : Nat) (x1 : Int32) (x2 : Int64) (x4 : Int64) (x6 : Int32) (x7 : Int32) (x8 : Int32) (v_items_count : Int32) (v_iwid : Nat → Int32) (v_inee : Nat → Int32) (v_iswi : Nat → Int32) (v_iswo : Nat → Int64) (v_isce : Nat → Int64) : f_Items_add_cut N n_iwid n_inee n_iswi n_iswo n_isce v_items_mustSet (n + 1) 0 x1 x2 x4 x6 x7 x8 v_items_count v_iwid v_inee v_iswi v_iswo v_isce = (if x7 ≤ x8 then (some (x6, (v_items_count + 1), v_iwid, v_inee, v_iswi, v_iswo, v_isce)) else (if x8 < 0 ∨ n_iswi ≤ Int32.toNatClampNeg x8 then none else (if (x7 + x8) < 0 ∨ n_iswi ≤ Int32.toNatClampNeg (x7 + x8) then none else (if x8 < 0 ∨ n_iswo ≤ Int32.toNatClampNeg x8 then none else (if (x7 + x8) < 0 ∨ n_iswo ≤ Int32.toNatClampNeg (x7 + x8) then none else (if x8 < 0 ∨ n_isce ≤ Int32.toNatClampNeg x8 then none else (if (x7 + x8) < 0 ∨ n_isce ≤ Int32.toNatClampNeg (x7 + x8) then none else (f_Items_add_cut N n_iwid n_inee n_iswi n_iswo n_isce v_items_mustSet n 0 x1 x2 x4 x6 x7 (x8 + 1) v_items_count v_iwid v_inee (upd v_iswi (Int32.toNatClampNeg (x7 + x8)) ((v_iswi (Int32.toNatClampNeg x8)) + x1)) (vp_updL v_iswo (Int32.toNatClampNeg (x7 + x8)) ((v_iswo (Int32.toNatClampNeg x8)) + x2)) (vp_updL v_isce (Int32.toNatClampNeg (x7 + x8)) ((v_isce (Int32.toNatClampNeg x8)) + x4)))))))))) := rfl
def f_Items_add (N : Nat) (n_iwid : Nat) (n_inee : Nat) (n_iswi : Nat) (n_iswo : Nat) (n_isce : Nat) (v_items_mustSet : Int32) (v_items_count : Int32) (v_iwid : Nat → Int32) (v_inee : Nat → Int32) (v_iswi : Nat → Int32) (v_iswo : Nat → Int64) (v_isce : Nat → Int64) (p1 : Int32) (p2 : Int64) (p3 : Int64) : Option (Int32 × Int32 × (Nat → Int32) × (Nat → Int32) × (Nat → Int32) × (Nat → Int64) × (Nat → Int64)) := (if v_items_count < 0 ∨ n_iwid ≤ Int32.toNatClampNeg v_items_count then none else (if v_items_count < 0 ∨ n_inee ≤ Int32.toNatClampNeg v_items_count then none else (f_Items_add_cut N n_iwid n_inee n_iswi n_iswo n_isce v_items_mustSet N 0 p1 p2 p3 v_items_count (1 <<< (v_items_count &&& 31)) 0 v_items_count (upd v_iwid (Int32.toNatClampNeg v_items_count) p1) (upd v_inee (Int32.toNatClampNeg v_items_count) (-1)) v_iswi v_iswo v_isce)))
set_option maxRecDepth 100000 in
set_option maxHeartbeats 4000000 in
theorem c_Items_add (l : Launch) (D : va_G) (ad : Nat → Nat) (ki : Nat → ClassId) (n_iwid : Nat) (n_inee : Nat) (n_iswi : Nat) (n_iswo : Nat) (n_isce : Nat) (v_items_mustSet : Int32) (v_items_count : Int32) (v_iwid : Nat → Int32) (v_inee : Nat → Int32) (v_iswi : Nat → Int32) (v_iswo : Nat → Int64) (v_isce : Nat → Int64) (p1 : Int32) (p2 : Int64) (p3 : Int64) (N : Nat) (sz : Nat) (r : Int32) (ov_items_count : Int32) (ov_iwid : Nat → Int32) (ov_inee : Nat → Int32) (ov_iswi : Nat → Int32) (ov_iswo : Nat → Int64) (ov_isce : Nat → Int64) (hf : f_Items_add N n_iwid n_inee n_iswi n_iswo n_isce v_items_mustSet v_items_count v_iwid v_inee v_iswi v_iswo v_isce p1 p2 p3 = some (r, ov_items_count, ov_iwid, ov_inee, ov_iswi, ov_iswo, ov_isce)) : Met l y_Items_add w_Items_add { frames := 0, cells := 0, slots := 0, locals := 0 } (q_PcM [.ref (ad 5), .int p1, .long p2, .long p3] D vwCl [(ad 5, .inr (2, [.ref (ad 6), .ref (ad 7), .ref (ad 8), .ref (ad 9), .ref (ad 10), .ref (ad 11), .ref (ad 12), .int v_items_mustSet, .int v_items_count])), (ad 6, .inl (ki 0, n_iwid, .inl v_iwid)), (ad 7, .inl (ki 0, n_inee, .inl v_inee)), (ad 10, .inl (ki 0, n_iswi, .inl v_iswi)), (ad 11, .inl (ki 1, n_iswo, .inr (.inl v_iswo))), (ad 12, .inl (ki 1, n_isce, .inr (.inl v_isce)))] (TYS ki) sz) (q_Qm (some (.int r)) D vwCl [(ad 5, .inr (2, [.ref (ad 6), .ref (ad 7), .ref (ad 8), .ref (ad 9), .ref (ad 10), .ref (ad 11), .ref (ad 12), .int v_items_mustSet, .int ov_items_count])), (ad 6, .inl (ki 0, n_iwid, .inl ov_iwid)), (ad 7, .inl (ki 0, n_inee, .inl ov_inee)), (ad 10, .inl (ki 0, n_iswi, .inl ov_iswi)), (ad 11, .inl (ki 1, n_iswo, .inr (.inl ov_iswo))), (ad 12, .inl (ki 1, n_isce, .inr (.inl ov_isce)))] (va_A [(ad 5, .inr (2, [.ref (ad 6), .ref (ad 7), .ref (ad 8), .ref (ad 9), .ref (ad 10), .ref (ad 11), .ref (ad 12), .int v_items_mustSet, .int v_items_count])), (ad 6, .inl (ki 0, n_iwid, .inl v_iwid)), (ad 7, .inl (ki 0, n_inee, .inl v_inee)), (ad 10, .inl (ki 0, n_iswi, .inl v_iswi)), (ad 11, .inl (ki 1, n_iswo, .inr (.inl v_iswo))), (ad 12, .inl (ki 1, n_isce, .inr (.inl v_isce)))] sz)) 0 0 (va_A [(ad 5, .inr (2, [.ref (ad 6), .ref (ad 7), .ref (ad 8), .ref (ad 9), .ref (ad 10), .ref (ad 11), .ref (ad 12), .int v_items_mustSet, .int v_items_count])), (ad 6, .inl (ki 0, n_iwid, .inl v_iwid)), (ad 7, .inl (ki 0, n_inee, .inl v_inee)), (ad 10, .inl (ki 0, n_iswi, .inl v_iswi)), (ad 11, .inl (ki 1, n_iswo, .inr (.inl v_iswo))), (ad 12, .inl (ki 1, n_isce, .inr (.inl v_isce)))] sz) := by
  refine Met.ofW (cc := b_Items_add) (maxL := 9) (ret := (some .int)) (by decide) rfl ?_
  intro p e s m args below meth c s₁ B hml hv
  obtain ⟨rfl, hsz, hP, hK, hD0, hE⟩ := hv
  have hx := B.exec
  have hb := B.bytes
  have hr := B.returns
  have hts := atoms_spec (ws := w_Items_add) B.pre
  have hown : s.vm.findClass R_Items = some m.cls := findClass_of_methodNamed B.named
  have hlocks := B.notSynchronized
  have hn_Items : ∀ w ∈ u_ws R_Items F_Items 9, w ∈ w_Items_add := (fun w h => List.mem_cons_of_mem _ (i_Items w h))
  have hL9 := hts (.fieldLink R_Items 9 "RoomFills$Items" "width" "[I") (List.mem_cons_of_mem _ m_119)
  have hL15 := hts (.fieldLink R_Items 15 "RoomFills$Items" "needMost" "[I") (List.mem_cons_of_mem _ m_123)
  have hL25 := hts (.fieldLink R_Items 25 "RoomFills$Items" "setWidth" "[I") (List.mem_cons_of_mem _ m_128)
  have hL28 := hts (.fieldLink R_Items 28 "RoomFills$Items" "setWorth" "[J") (List.mem_cons_of_mem _ m_130)
  have hL31 := hts (.fieldLink R_Items 31 "RoomFills$Items" "setCents" "[J") (List.mem_cons_of_mem _ m_133)
  have hL38 := hts (.fieldLink R_Items 38 "RoomFills$Items" "count" "I") (List.mem_cons_of_mem _ m_138)
  subst hsz
  have hD := hD0.self (sz := s.heap.size)
  generalize hAe : va_A [(ad 5, .inr (2, [.ref (ad 6), .ref (ad 7), .ref (ad 8), .ref (ad 9), .ref (ad 10), .ref (ad 11), .ref (ad 12), .int v_items_mustSet, .int v_items_count])), (ad 6, .inl (ki 0, n_iwid, .inl v_iwid)), (ad 7, .inl (ki 0, n_inee, .inl v_inee)), (ad 10, .inl (ki 0, n_iswi, .inl v_iswi)), (ad 11, .inl (ki 1, n_iswo, .inr (.inl v_iswo))), (ad 12, .inl (ki 1, n_isce, .inr (.inl v_isce)))] s.heap.size = A at hD ⊢
  have hA : ∀ q : Nat, s.heap.size ≤ q → A q := fun q h => by rw [← hAe]; exact Or.inr h
  have hS : va_S A s.heap s.heap [] := va_S.rf
  replace hP : va_P D vwCl [(ad 5, .inr (2, [.ref (ad 6), .ref (ad 7), .ref (ad 8), .ref (ad 9), .ref (ad 10), .ref (ad 11), .ref (ad 12), .int v_items_mustSet, .int v_items_count])), (ad 6, .inl (ki 0, n_iwid, .inl v_iwid)), (ad 7, .inl (ki 0, n_inee, .inl v_inee)), (ad 10, .inl (ki 0, n_iswi, .inl v_iswi)), (ad 11, .inl (ki 1, n_iswo, .inr (.inl v_iswo))), (ad 12, .inl (ki 1, n_isce, .inr (.inl v_isce)))] s.heap := hP
  have hl := lv_entry ([.ref (ad 5), .int p1, .long p2, .long p3]) (n := 9) (Nat.le_of_ble_eq_true rfl)
  rw [lg_entry_eq]
  generalize (lg_sl ([.ref (ad 5), .int p1, .long p2, .long p3]) ++ List.replicate (9 - (lg_sl ([.ref (ad 5), .int p1, .long p2, .long p3])).length) Slot.unset).toArray = ls at hl ⊢
  replace hl : lv_has ls 9 [(0, .ref (ad 5)), (1, .int p1), (2, .long p2), (4, .long p3)] := hl
  have key : ∀ n : Nat, (∀ (x1 : Int32) (x2 : Int64) (x4 : Int64) (x6 : Int32) (x7 : Int32) (x8 : Int32) (v_items_count : Int32) (v_iwid : Nat → Int32) (v_inee : Nat → Int32) (v_iswi : Nat → Int32) (v_iswo : Nat → Int64) (v_isce : Nat → Int64), f_Items_add_cut N n_iwid n_inee n_iswi n_iswo n_isce v_items_mustSet n 0 x1 x2 x4 x6 x7 x8 v_items_count v_iwid v_inee v_iswi v_iswo v_isce = some (r, ov_items_count, ov_iwid, ov_inee, ov_iswi, ov_iswo, ov_isce) → ∀ (H : Heap) (locs : List Loc), va_P D vwCl [(ad 5, .inr (2, [.ref (ad 6), .ref (ad 7), .ref (ad 8), .ref (ad 9), .ref (ad 10), .ref (ad 11), .ref (ad 12), .int v_items_mustSet, .int v_items_count])), (ad 6, .inl (ki 0, n_iwid, .inl v_iwid)), (ad 7, .inl (ki 0, n_inee, .inl v_inee)), (ad 10, .inl (ki 0, n_iswi, .inl v_iswi)), (ad 11, .inl (ki 1, n_iswo, .inr (.inl v_iswo))), (ad 12, .inl (ki 1, n_isce, .inr (.inl v_isce)))] H → va_D A [(ad 5, .inr (2, [.ref (ad 6), .ref (ad 7), .ref (ad 8), .ref (ad 9), .ref (ad 10), .ref (ad 11), .ref (ad 12), .int v_items_mustSet, .int v_items_count])), (ad 6, .inl (ki 0, n_iwid, .inl v_iwid)), (ad 7, .inl (ki 0, n_inee, .inl v_inee)), (ad 10, .inl (ki 0, n_iswi, .inl v_iswi)), (ad 11, .inl (ki 1, n_iswo, .inr (.inl v_iswo))), (ad 12, .inl (ki 1, n_isce, .inr (.inl v_isce)))] → va_S A s.heap H locs → ∀ (ls : Array Slot), lv_has ls 9 [(0, .ref (ad 5)), (1, .int x1), (2, .long x2), (4, .long x4), (6, .int x6), (7, .int x7), (8, .int x8)] → W p l e (headSpec w_Items_add { frames := 0, cells := 0, slots := 0, locals := 0 }).room s m ([.ref (ad 5), .int p1, .long p2, .long p3] : List Value).toArray below meth c H locs 0 0 (MQ below (q_Qm (some (.int r)) D vwCl [(ad 5, .inr (2, [.ref (ad 6), .ref (ad 7), .ref (ad 8), .ref (ad 9), .ref (ad 10), .ref (ad 11), .ref (ad 12), .int v_items_mustSet, .int ov_items_count])), (ad 6, .inl (ki 0, n_iwid, .inl ov_iwid)), (ad 7, .inl (ki 0, n_inee, .inl ov_inee)), (ad 10, .inl (ki 0, n_iswi, .inl ov_iswi)), (ad 11, .inl (ki 1, n_iswo, .inr (.inl ov_iswo))), (ad 12, .inl (ki 1, n_isce, .inr (.inl ov_isce)))] A) ([.ref (ad 5), .int p1, .long p2, .long p3] : List Value).toArray s 0 0 A) (F0 m 31 ls [])) := by
    intro n
    induction n with
    | zero =>
      exact fun x1 x2 x4 x6 x7 x8 v_items_count v_iwid v_inee v_iswi v_iswo v_isce hf => (nomatch (show none = some _ from hf))
    | succ n ih =>
      intro x1 x2 x4 x6 x7 x8 v_items_count v_iwid v_inee v_iswi v_iswo v_isce hf H locs hP hD hS ls hl
      rw [f_Items_add_cut_0] at hf
      refine lv_iload hx hb d_Items_add_31 (lv_at hl 6 rfl) ?_
      refine lv_iload hx hb d_Items_add_33 (lv_at hl 5 rfl) ?_
      refine lv_icmp_ge (tgt := 102) hx hb d_Items_add_35 (by decide) (fun c_1 => ?_) (fun c_1 => ?_)
      · replace hf := q_it hf c_1
        refine lv_aload_n hx hb d_Items_add_102 rfl (lv_at hl 0 rfl) ?_
        refine lv_dup hx hb d_Items_add_103 rfl ?_
        refine va_get (D := D) (ci := 2) (v := .int v_items_count) (C := R_Items) (T := F_Items) (N := 9) hx hb hts hn_Items hown hK hP 0 rfl rfl 8 (by decide) hL38 (fun _ h9 => h9) rfl d_Items_add_104 ?_
        refine lv_iconst (v := 1) hx hb d_Items_add_107 (by decide) ?_
        refine lv_iadd hx hb d_Items_add_108 ?_
        refine va_put (D := D) (ci := 2) (v := .int (v_items_count + 1)) (ty := .int) (C := R_Items) (T := F_Items) (N := 9) hx hb hts hn_Items t_Items t_Items_ok n_Items hown hK hP hD hS 0 rfl rfl 8 (by decide) hL38 (fun _ h9 => h9) rfl (by decide +kernel) rfl rfl (Nat.le_of_ble_eq_true rfl) d_Items_add_109 (fun H locs hP hD hS => ?_)
        replace hP : va_P D vwCl [(ad 5, .inr (2, [.ref (ad 6), .ref (ad 7), .ref (ad 8), .ref (ad 9), .ref (ad 10), .ref (ad 11), .ref (ad 12), .int v_items_mustSet, .int (v_items_count + 1)])), (ad 6, .inl (ki 0, n_iwid, .inl v_iwid)), (ad 7, .inl (ki 0, n_inee, .inl v_inee)), (ad 10, .inl (ki 0, n_iswi, .inl v_iswi)), (ad 11, .inl (ki 1, n_iswo, .inr (.inl v_iswo))), (ad 12, .inl (ki 1, n_isce, .inr (.inl v_isce)))] H := hP
        replace hD : va_D A [(ad 5, .inr (2, [.ref (ad 6), .ref (ad 7), .ref (ad 8), .ref (ad 9), .ref (ad 10), .ref (ad 11), .ref (ad 12), .int v_items_mustSet, .int (v_items_count + 1)])), (ad 6, .inl (ki 0, n_iwid, .inl v_iwid)), (ad 7, .inl (ki 0, n_inee, .inl v_inee)), (ad 10, .inl (ki 0, n_iswi, .inl v_iswi)), (ad 11, .inl (ki 1, n_iswo, .inr (.inl v_iswo))), (ad 12, .inl (ki 1, n_isce, .inr (.inl v_isce)))] := hD
        refine lv_iload hx hb d_Items_add_112 (lv_at hl 4 rfl) ?_
        cases hf
        first | exact W.iret (v := x6) hx hb hr (fun t ht hW => ⟨rfl, by rw [ht]; exact hP, hS.F ht⟩) hS.2.2 d_Items_add_114 | exact W.iret (v := r) hx hb hr (fun t ht hW => ⟨rfl, by rw [ht]; exact hP, hS.F ht⟩) hS.2.2 d_Items_add_114
      replace hf := q_ie hf c_1
      refine lv_aload_n hx hb d_Items_add_38 rfl (lv_at hl 0 rfl) ?_
      refine va_get (D := D) (ci := 2) (v := .ref (ad 10)) (C := R_Items) (T := F_Items) (N := 9) hx hb hts hn_Items hown hK hP 0 rfl rfl 4 (by decide) hL25 (fun _ h9 => h9) rfl d_Items_add_39 ?_
      refine lv_iload hx hb d_Items_add_42 (lv_at hl 5 rfl) ?_
      refine lv_iload hx hb d_Items_add_44 (lv_at hl 6 rfl) ?_
      refine lv_iadd hx hb d_Items_add_46 ?_
      refine lv_aload_n hx hb d_Items_add_47 rfl (lv_at hl 0 rfl) ?_
      refine va_get (D := D) (ci := 2) (v := .ref (ad 10)) (C := R_Items) (T := F_Items) (N := 9) hx hb hts hn_Items hown hK hP 0 rfl rfl 4 (by decide) hL25 (fun _ h9 => h9) rfl d_Items_add_48 ?_
      refine lv_iload hx hb d_Items_add_51 (lv_at hl 6 rfl) ?_
      obtain ⟨hi_2, hf⟩ := q_ck hf
      refine va_iald hx hb hK hP 3 0 rfl rfl hi_2 d_Items_add_53 ?_
      refine lv_iload_n hx hb d_Items_add_54 rfl (lv_at hl 1 rfl) ?_
      refine lv_iadd hx hb d_Items_add_55 ?_
      obtain ⟨hi_3, hf⟩ := q_ck hf
      refine va_iast hx hb hK hP hD hS 3 0 rfl rfl hi_3 d_Items_add_56 (fun H locs hP hD hS => ?_)
      replace hP : va_P D vwCl [(ad 5, .inr (2, [.ref (ad 6), .ref (ad 7), .ref (ad 8), .ref (ad 9), .ref (ad 10), .ref (ad 11), .ref (ad 12), .int v_items_mustSet, .int v_items_count])), (ad 6, .inl (ki 0, n_iwid, .inl v_iwid)), (ad 7, .inl (ki 0, n_inee, .inl v_inee)), (ad 10, .inl (ki 0, n_iswi, .inl (upd v_iswi (Int32.toNatClampNeg (x7 + x8)) ((v_iswi (Int32.toNatClampNeg x8)) + x1)))), (ad 11, .inl (ki 1, n_iswo, .inr (.inl v_iswo))), (ad 12, .inl (ki 1, n_isce, .inr (.inl v_isce)))] H := hP
      replace hD : va_D A [(ad 5, .inr (2, [.ref (ad 6), .ref (ad 7), .ref (ad 8), .ref (ad 9), .ref (ad 10), .ref (ad 11), .ref (ad 12), .int v_items_mustSet, .int v_items_count])), (ad 6, .inl (ki 0, n_iwid, .inl v_iwid)), (ad 7, .inl (ki 0, n_inee, .inl v_inee)), (ad 10, .inl (ki 0, n_iswi, .inl (upd v_iswi (Int32.toNatClampNeg (x7 + x8)) ((v_iswi (Int32.toNatClampNeg x8)) + x1)))), (ad 11, .inl (ki 1, n_iswo, .inr (.inl v_iswo))), (ad 12, .inl (ki 1, n_isce, .inr (.inl v_isce)))] := hD
      refine lv_aload_n hx hb d_Items_add_57 rfl (lv_at hl 0 rfl) ?_
      refine va_get (D := D) (ci := 2) (v := .ref (ad 11)) (C := R_Items) (T := F_Items) (N := 9) hx hb hts hn_Items hown hK hP 0 rfl rfl 5 (by decide) hL28 (fun _ h9 => h9) rfl d_Items_add_58 ?_
      refine lv_iload hx hb d_Items_add_61 (lv_at hl 5 rfl) ?_
      refine lv_iload hx hb d_Items_add_63 (lv_at hl 6 rfl) ?_
      refine lv_iadd hx hb d_Items_add_65 ?_
      refine lv_aload_n hx hb d_Items_add_66 rfl (lv_at hl 0 rfl) ?_
      refine va_get (D := D) (ci := 2) (v := .ref (ad 11)) (C := R_Items) (T := F_Items) (N := 9) hx hb hts hn_Items hown hK hP 0 rfl rfl 5 (by decide) hL28 (fun _ h9 => h9) rfl d_Items_add_67 ?_
      refine lv_iload hx hb d_Items_add_70 (lv_at hl 6 rfl) ?_
      obtain ⟨hi_4, hf⟩ := q_ck hf
      refine va_lald hx hb hK hP 4 1 rfl rfl hi_4 d_Items_add_72 ?_
      refine lv_lload_n hx hb d_Items_add_73 rfl (lv_at hl 2 rfl) ?_
      refine lv_ladd hx hb d_Items_add_74 ?_
      obtain ⟨hi_5, hf⟩ := q_ck hf
      refine va_last hx hb hK hP hD hS 4 1 rfl rfl hi_5 d_Items_add_75 (fun H locs hP hD hS => ?_)
      replace hP : va_P D vwCl [(ad 5, .inr (2, [.ref (ad 6), .ref (ad 7), .ref (ad 8), .ref (ad 9), .ref (ad 10), .ref (ad 11), .ref (ad 12), .int v_items_mustSet, .int v_items_count])), (ad 6, .inl (ki 0, n_iwid, .inl v_iwid)), (ad 7, .inl (ki 0, n_inee, .inl v_inee)), (ad 10, .inl (ki 0, n_iswi, .inl (upd v_iswi (Int32.toNatClampNeg (x7 + x8)) ((v_iswi (Int32.toNatClampNeg x8)) + x1)))), (ad 11, .inl (ki 1, n_iswo, .inr (.inl (vp_updL v_iswo (Int32.toNatClampNeg (x7 + x8)) ((v_iswo (Int32.toNatClampNeg x8)) + x2))))), (ad 12, .inl (ki 1, n_isce, .inr (.inl v_isce)))] H := hP
      replace hD : va_D A [(ad 5, .inr (2, [.ref (ad 6), .ref (ad 7), .ref (ad 8), .ref (ad 9), .ref (ad 10), .ref (ad 11), .ref (ad 12), .int v_items_mustSet, .int v_items_count])), (ad 6, .inl (ki 0, n_iwid, .inl v_iwid)), (ad 7, .inl (ki 0, n_inee, .inl v_inee)), (ad 10, .inl (ki 0, n_iswi, .inl (upd v_iswi (Int32.toNatClampNeg (x7 + x8)) ((v_iswi (Int32.toNatClampNeg x8)) + x1)))), (ad 11, .inl (ki 1, n_iswo, .inr (.inl (vp_updL v_iswo (Int32.toNatClampNeg (x7 + x8)) ((v_iswo (Int32.toNatClampNeg x8)) + x2))))), (ad 12, .inl (ki 1, n_isce, .inr (.inl v_isce)))] := hD
      refine lv_aload_n hx hb d_Items_add_76 rfl (lv_at hl 0 rfl) ?_
      refine va_get (D := D) (ci := 2) (v := .ref (ad 12)) (C := R_Items) (T := F_Items) (N := 9) hx hb hts hn_Items hown hK hP 0 rfl rfl 6 (by decide) hL31 (fun _ h9 => h9) rfl d_Items_add_77 ?_
      refine lv_iload hx hb d_Items_add_80 (lv_at hl 5 rfl) ?_
      refine lv_iload hx hb d_Items_add_82 (lv_at hl 6 rfl) ?_
      refine lv_iadd hx hb d_Items_add_84 ?_
      refine lv_aload_n hx hb d_Items_add_85 rfl (lv_at hl 0 rfl) ?_
      refine va_get (D := D) (ci := 2) (v := .ref (ad 12)) (C := R_Items) (T := F_Items) (N := 9) hx hb hts hn_Items hown hK hP 0 rfl rfl 6 (by decide) hL31 (fun _ h9 => h9) rfl d_Items_add_86 ?_
      refine lv_iload hx hb d_Items_add_89 (lv_at hl 6 rfl) ?_
      obtain ⟨hi_6, hf⟩ := q_ck hf
      refine va_lald hx hb hK hP 5 1 rfl rfl hi_6 d_Items_add_91 ?_
      refine lv_lload hx hb d_Items_add_92 (lv_at hl 3 rfl) ?_
      refine lv_ladd hx hb d_Items_add_94 ?_
      obtain ⟨hi_7, hf⟩ := q_ck hf
      refine va_last hx hb hK hP hD hS 5 1 rfl rfl hi_7 d_Items_add_95 (fun H locs hP hD hS => ?_)
      replace hP : va_P D vwCl [(ad 5, .inr (2, [.ref (ad 6), .ref (ad 7), .ref (ad 8), .ref (ad 9), .ref (ad 10), .ref (ad 11), .ref (ad 12), .int v_items_mustSet, .int v_items_count])), (ad 6, .inl (ki 0, n_iwid, .inl v_iwid)), (ad 7, .inl (ki 0, n_inee, .inl v_inee)), (ad 10, .inl (ki 0, n_iswi, .inl (upd v_iswi (Int32.toNatClampNeg (x7 + x8)) ((v_iswi (Int32.toNatClampNeg x8)) + x1)))), (ad 11, .inl (ki 1, n_iswo, .inr (.inl (vp_updL v_iswo (Int32.toNatClampNeg (x7 + x8)) ((v_iswo (Int32.toNatClampNeg x8)) + x2))))), (ad 12, .inl (ki 1, n_isce, .inr (.inl (vp_updL v_isce (Int32.toNatClampNeg (x7 + x8)) ((v_isce (Int32.toNatClampNeg x8)) + x4)))))] H := hP
      replace hD : va_D A [(ad 5, .inr (2, [.ref (ad 6), .ref (ad 7), .ref (ad 8), .ref (ad 9), .ref (ad 10), .ref (ad 11), .ref (ad 12), .int v_items_mustSet, .int v_items_count])), (ad 6, .inl (ki 0, n_iwid, .inl v_iwid)), (ad 7, .inl (ki 0, n_inee, .inl v_inee)), (ad 10, .inl (ki 0, n_iswi, .inl (upd v_iswi (Int32.toNatClampNeg (x7 + x8)) ((v_iswi (Int32.toNatClampNeg x8)) + x1)))), (ad 11, .inl (ki 1, n_iswo, .inr (.inl (vp_updL v_iswo (Int32.toNatClampNeg (x7 + x8)) ((v_iswo (Int32.toNatClampNeg x8)) + x2))))), (ad 12, .inl (ki 1, n_isce, .inr (.inl (vp_updL v_isce (Int32.toNatClampNeg (x7 + x8)) ((v_isce (Int32.toNatClampNeg x8)) + x4)))))] := hD
      refine lv_iinc (v := (x8 + 1)) (lv' := [(8, .int (x8 + 1)), (0, .ref (ad 5)), (1, .int x1), (2, .long x2), (4, .long x4), (6, .int x6), (7, .int x7)]) hx hb d_Items_add_96 hl (k := 6) rfl rfl (by decide) rfl (fun ls hl => ?_)
      refine lv_goto (tgt := 31) hx hb d_Items_add_99 (by decide) ?_
      exact (ih) x1 x2 x4 x6 x7 (x8 + 1) v_items_count v_iwid v_inee (upd v_iswi (Int32.toNatClampNeg (x7 + x8)) ((v_iswi (Int32.toNatClampNeg x8)) + x1)) (vp_updL v_iswo (Int32.toNatClampNeg (x7 + x8)) ((v_iswo (Int32.toNatClampNeg x8)) + x2)) (vp_updL v_isce (Int32.toNatClampNeg (x7 + x8)) ((v_isce (Int32.toNatClampNeg x8)) + x4)) hf _ _ hP hD hS ls (lv_sub hl [1, 2, 3, 4, 5, 6, 0] rfl)
  unfold f_Items_add at hf
  refine lv_aload_n hx hb d_Items_add_0 rfl (lv_at hl 0 rfl) ?_
  refine va_get (D := D) (ci := 2) (v := .int v_items_count) (C := R_Items) (T := F_Items) (N := 9) hx hb hts hn_Items hown hK hP 0 rfl rfl 8 (by decide) hL38 (fun _ h9 => h9) rfl d_Items_add_1 ?_
  refine lv_istore (lv' := [(6, .int v_items_count), (0, .ref (ad 5)), (1, .int p1), (2, .long p2), (4, .long p3)]) hx hb d_Items_add_4 hl (by decide) rfl (fun ls hl => ?_)
  refine lv_aload_n hx hb d_Items_add_6 rfl (lv_at hl 1 rfl) ?_
  refine va_get (D := D) (ci := 2) (v := .ref (ad 6)) (C := R_Items) (T := F_Items) (N := 9) hx hb hts hn_Items hown hK hP 0 rfl rfl 0 (by decide) hL9 (fun _ h9 => h9) rfl d_Items_add_7 ?_
  refine lv_iload hx hb d_Items_add_10 (lv_at hl 0 rfl) ?_
  refine lv_iload_n hx hb d_Items_add_12 rfl (lv_at hl 2 rfl) ?_
  obtain ⟨hi_8, hf⟩ := q_ck hf
  refine va_iast hx hb hK hP hD hS 1 0 rfl rfl hi_8 d_Items_add_13 (fun H locs hP hD hS => ?_)
  replace hP : va_P D vwCl [(ad 5, .inr (2, [.ref (ad 6), .ref (ad 7), .ref (ad 8), .ref (ad 9), .ref (ad 10), .ref (ad 11), .ref (ad 12), .int v_items_mustSet, .int v_items_count])), (ad 6, .inl (ki 0, n_iwid, .inl (upd v_iwid (Int32.toNatClampNeg v_items_count) p1))), (ad 7, .inl (ki 0, n_inee, .inl v_inee)), (ad 10, .inl (ki 0, n_iswi, .inl v_iswi)), (ad 11, .inl (ki 1, n_iswo, .inr (.inl v_iswo))), (ad 12, .inl (ki 1, n_isce, .inr (.inl v_isce)))] H := hP
  replace hD : va_D A [(ad 5, .inr (2, [.ref (ad 6), .ref (ad 7), .ref (ad 8), .ref (ad 9), .ref (ad 10), .ref (ad 11), .ref (ad 12), .int v_items_mustSet, .int v_items_count])), (ad 6, .inl (ki 0, n_iwid, .inl (upd v_iwid (Int32.toNatClampNeg v_items_count) p1))), (ad 7, .inl (ki 0, n_inee, .inl v_inee)), (ad 10, .inl (ki 0, n_iswi, .inl v_iswi)), (ad 11, .inl (ki 1, n_iswo, .inr (.inl v_iswo))), (ad 12, .inl (ki 1, n_isce, .inr (.inl v_isce)))] := hD
  refine lv_aload_n hx hb d_Items_add_14 rfl (lv_at hl 1 rfl) ?_
  refine va_get (D := D) (ci := 2) (v := .ref (ad 7)) (C := R_Items) (T := F_Items) (N := 9) hx hb hts hn_Items hown hK hP 0 rfl rfl 1 (by decide) hL15 (fun _ h9 => h9) rfl d_Items_add_15 ?_
  refine lv_iload hx hb d_Items_add_18 (lv_at hl 0 rfl) ?_
  refine lv_iconst (v := (-1)) hx hb d_Items_add_20 (by decide) ?_
  obtain ⟨hi_9, hf⟩ := q_ck hf
  refine va_iast hx hb hK hP hD hS 2 0 rfl rfl hi_9 d_Items_add_21 (fun H locs hP hD hS => ?_)
  replace hP : va_P D vwCl [(ad 5, .inr (2, [.ref (ad 6), .ref (ad 7), .ref (ad 8), .ref (ad 9), .ref (ad 10), .ref (ad 11), .ref (ad 12), .int v_items_mustSet, .int v_items_count])), (ad 6, .inl (ki 0, n_iwid, .inl (upd v_iwid (Int32.toNatClampNeg v_items_count) p1))), (ad 7, .inl (ki 0, n_inee, .inl (upd v_inee (Int32.toNatClampNeg v_items_count) (-1)))), (ad 10, .inl (ki 0, n_iswi, .inl v_iswi)), (ad 11, .inl (ki 1, n_iswo, .inr (.inl v_iswo))), (ad 12, .inl (ki 1, n_isce, .inr (.inl v_isce)))] H := hP
  replace hD : va_D A [(ad 5, .inr (2, [.ref (ad 6), .ref (ad 7), .ref (ad 8), .ref (ad 9), .ref (ad 10), .ref (ad 11), .ref (ad 12), .int v_items_mustSet, .int v_items_count])), (ad 6, .inl (ki 0, n_iwid, .inl (upd v_iwid (Int32.toNatClampNeg v_items_count) p1))), (ad 7, .inl (ki 0, n_inee, .inl (upd v_inee (Int32.toNatClampNeg v_items_count) (-1)))), (ad 10, .inl (ki 0, n_iswi, .inl v_iswi)), (ad 11, .inl (ki 1, n_iswo, .inr (.inl v_iswo))), (ad 12, .inl (ki 1, n_isce, .inr (.inl v_isce)))] := hD
  refine lv_iconst (v := 1) hx hb d_Items_add_22 (by decide) ?_
  refine lv_iload hx hb d_Items_add_23 (lv_at hl 0 rfl) ?_
  refine lv_ishl hx hb d_Items_add_25 ?_
  refine lv_istore (lv' := [(7, .int (1 <<< (v_items_count &&& 31))), (6, .int v_items_count), (0, .ref (ad 5)), (1, .int p1), (2, .long p2), (4, .long p3)]) hx hb d_Items_add_26 hl (by decide) rfl (fun ls hl => ?_)
  refine lv_iconst (v := 0) hx hb d_Items_add_28 (by decide) ?_
  refine lv_istore (lv' := [(8, .int 0), (7, .int (1 <<< (v_items_count &&& 31))), (6, .int v_items_count), (0, .ref (ad 5)), (1, .int p1), (2, .long p2), (4, .long p3)]) hx hb d_Items_add_29 hl (by decide) rfl (fun ls hl => ?_)
  exact (key N) p1 p2 p3 v_items_count (1 <<< (v_items_count &&& 31)) 0 v_items_count (upd v_iwid (Int32.toNatClampNeg v_items_count) p1) (upd v_inee (Int32.toNatClampNeg v_items_count) (-1)) v_iswi v_iswo v_isce hf _ _ hP hD hS ls (lv_sub hl [3, 4, 5, 6, 2, 1, 0] rfl)
def f_Items_setNeed (N : Nat) (n_inee : Nat) (v_items_mustSet : Int32) (v_items_count : Int32) (v_inee : Nat → Int32) (p1 : Int32) (p2 : Int32) : Option (Bool × (Nat → Int32)) := (if p1 < 0 ∨ n_inee ≤ Int32.toNatClampNeg p1 then none else (if (v_inee (Int32.toNatClampNeg p1)) = p2 then (if p1 < 0 ∨ n_inee ≤ Int32.toNatClampNeg p1 then none else (some (false, (upd v_inee (Int32.toNatClampNeg p1) p2)))) else (if p1 < 0 ∨ n_inee ≤ Int32.toNatClampNeg p1 then none else (some (true, (upd v_inee (Int32.toNatClampNeg p1) p2))))))
set_option maxRecDepth 100000 in
set_option maxHeartbeats 4000000 in
theorem c_Items_setNeed (l : Launch) (D : va_G) (ad : Nat → Nat) (ki : Nat → ClassId) (n_inee : Nat) (v_items_mustSet : Int32) (v_items_count : Int32) (v_inee : Nat → Int32) (p1 : Int32) (p2 : Int32) (N : Nat) (sz : Nat) (r : Bool) (ov_inee : Nat → Int32) (hf : f_Items_setNeed N n_inee v_items_mustSet v_items_count v_inee p1 p2 = some (r, ov_inee)) : Met l y_Items_setNeed w_Items_setNeed { frames := 0, cells := 0, slots := 0, locals := 0 } (q_PcM [.ref (ad 5), .int p1, .int p2] D vwCl [(ad 5, .inr (2, [.ref (ad 6), .ref (ad 7), .ref (ad 8), .ref (ad 9), .ref (ad 10), .ref (ad 11), .ref (ad 12), .int v_items_mustSet, .int v_items_count])), (ad 7, .inl (ki 0, n_inee, .inl v_inee))] (TYS ki) sz) (q_Qm (some (.int (bI r))) D vwCl [(ad 5, .inr (2, [.ref (ad 6), .ref (ad 7), .ref (ad 8), .ref (ad 9), .ref (ad 10), .ref (ad 11), .ref (ad 12), .int v_items_mustSet, .int v_items_count])), (ad 7, .inl (ki 0, n_inee, .inl ov_inee))] (va_A [(ad 5, .inr (2, [.ref (ad 6), .ref (ad 7), .ref (ad 8), .ref (ad 9), .ref (ad 10), .ref (ad 11), .ref (ad 12), .int v_items_mustSet, .int v_items_count])), (ad 7, .inl (ki 0, n_inee, .inl v_inee))] sz)) 0 0 (va_A [(ad 5, .inr (2, [.ref (ad 6), .ref (ad 7), .ref (ad 8), .ref (ad 9), .ref (ad 10), .ref (ad 11), .ref (ad 12), .int v_items_mustSet, .int v_items_count])), (ad 7, .inl (ki 0, n_inee, .inl v_inee))] sz) := by
  refine Met.ofW (cc := b_Items_setNeed) (maxL := 4) (ret := (some .boolean)) (by decide) rfl ?_
  intro p e s m args below meth c s₁ B hml hv
  obtain ⟨rfl, hsz, hP, hK, hD0, hE⟩ := hv
  have hx := B.exec
  have hb := B.bytes
  have hr := B.returns
  have hts := atoms_spec (ws := w_Items_setNeed) B.pre
  have hown : s.vm.findClass R_Items = some m.cls := findClass_of_methodNamed B.named
  have hlocks := B.notSynchronized
  have hn_Items : ∀ w ∈ u_ws R_Items F_Items 9, w ∈ w_Items_setNeed := (fun w h => List.mem_cons_of_mem _ (i_Items w h))
  have hL15 := hts (.fieldLink R_Items 15 "RoomFills$Items" "needMost" "[I") (List.mem_cons_of_mem _ m_123)
  subst hsz
  have hD := hD0.self (sz := s.heap.size)
  generalize hAe : va_A [(ad 5, .inr (2, [.ref (ad 6), .ref (ad 7), .ref (ad 8), .ref (ad 9), .ref (ad 10), .ref (ad 11), .ref (ad 12), .int v_items_mustSet, .int v_items_count])), (ad 7, .inl (ki 0, n_inee, .inl v_inee))] s.heap.size = A at hD ⊢
  have hA : ∀ q : Nat, s.heap.size ≤ q → A q := fun q h => by rw [← hAe]; exact Or.inr h
  have hS : va_S A s.heap s.heap [] := va_S.rf
  replace hP : va_P D vwCl [(ad 5, .inr (2, [.ref (ad 6), .ref (ad 7), .ref (ad 8), .ref (ad 9), .ref (ad 10), .ref (ad 11), .ref (ad 12), .int v_items_mustSet, .int v_items_count])), (ad 7, .inl (ki 0, n_inee, .inl v_inee))] s.heap := hP
  have hl := lv_entry ([.ref (ad 5), .int p1, .int p2]) (n := 4) (Nat.le_of_ble_eq_true rfl)
  rw [lg_entry_eq]
  generalize (lg_sl ([.ref (ad 5), .int p1, .int p2]) ++ List.replicate (4 - (lg_sl ([.ref (ad 5), .int p1, .int p2])).length) Slot.unset).toArray = ls at hl ⊢
  replace hl : lv_has ls 4 [(0, .ref (ad 5)), (1, .int p1), (2, .int p2)] := hl
  unfold f_Items_setNeed at hf
  refine lv_aload_n hx hb d_Items_setNeed_0 rfl (lv_at hl 0 rfl) ?_
  refine va_get (D := D) (ci := 2) (v := .ref (ad 7)) (C := R_Items) (T := F_Items) (N := 9) hx hb hts hn_Items hown hK hP 0 rfl rfl 1 (by decide) hL15 (fun _ h9 => h9) rfl d_Items_setNeed_1 ?_
  refine lv_iload_n hx hb d_Items_setNeed_4 rfl (lv_at hl 1 rfl) ?_
  obtain ⟨hi_1, hf⟩ := q_ck hf
  refine va_iald hx hb hK hP 1 0 rfl rfl hi_1 d_Items_setNeed_5 ?_
  refine lv_iload_n hx hb d_Items_setNeed_6 rfl (lv_at hl 2 rfl) ?_
  refine lv_icmp_eq (tgt := 14) hx hb d_Items_setNeed_7 (by decide) (fun c_2 => ?_) (fun c_2 => ?_)
  · replace hf := q_it hf c_2
    refine lv_iconst (v := 0) hx hb d_Items_setNeed_14 (by decide) ?_
    refine lv_istore_n (lv' := [(3, .int (bI false)), (0, .ref (ad 5)), (1, .int p1), (2, .int p2)]) hx hb d_Items_setNeed_15 rfl hl (by decide) rfl (fun ls hl => ?_)
    refine lv_aload_n hx hb d_Items_setNeed_16 rfl (lv_at hl 1 rfl) ?_
    refine va_get (D := D) (ci := 2) (v := .ref (ad 7)) (C := R_Items) (T := F_Items) (N := 9) hx hb hts hn_Items hown hK hP 0 rfl rfl 1 (by decide) hL15 (fun _ h9 => h9) rfl d_Items_setNeed_17 ?_
    refine lv_iload_n hx hb d_Items_setNeed_20 rfl (lv_at hl 2 rfl) ?_
    refine lv_iload_n hx hb d_Items_setNeed_21 rfl (lv_at hl 3 rfl) ?_
    obtain ⟨hi_3, hf⟩ := q_ck hf
    refine va_iast hx hb hK hP hD hS 1 0 rfl rfl hi_3 d_Items_setNeed_22 (fun H locs hP hD hS => ?_)
    replace hP : va_P D vwCl [(ad 5, .inr (2, [.ref (ad 6), .ref (ad 7), .ref (ad 8), .ref (ad 9), .ref (ad 10), .ref (ad 11), .ref (ad 12), .int v_items_mustSet, .int v_items_count])), (ad 7, .inl (ki 0, n_inee, .inl (upd v_inee (Int32.toNatClampNeg p1) p2)))] H := hP
    replace hD : va_D A [(ad 5, .inr (2, [.ref (ad 6), .ref (ad 7), .ref (ad 8), .ref (ad 9), .ref (ad 10), .ref (ad 11), .ref (ad 12), .int v_items_mustSet, .int v_items_count])), (ad 7, .inl (ki 0, n_inee, .inl (upd v_inee (Int32.toNatClampNeg p1) p2)))] := hD
    refine lv_iload_n hx hb d_Items_setNeed_23 rfl (lv_at hl 0 rfl) ?_
    cases hf
    exact W.zret (v := bI false) hx hb hr (bI_nar _) (fun t ht hW => ⟨rfl, by rw [ht]; exact hP, hS.F ht⟩) hS.2.2 d_Items_setNeed_24
  replace hf := q_ie hf c_2
  refine lv_iconst (v := 1) hx hb d_Items_setNeed_10 (by decide) ?_
  refine lv_goto (tgt := 15) hx hb d_Items_setNeed_11 (by decide) ?_
  refine lv_istore_n (lv' := [(3, .int (bI true)), (0, .ref (ad 5)), (1, .int p1), (2, .int p2)]) hx hb d_Items_setNeed_15 rfl hl (by decide) rfl (fun ls hl => ?_)
  refine lv_aload_n hx hb d_Items_setNeed_16 rfl (lv_at hl 1 rfl) ?_
  refine va_get (D := D) (ci := 2) (v := .ref (ad 7)) (C := R_Items) (T := F_Items) (N := 9) hx hb hts hn_Items hown hK hP 0 rfl rfl 1 (by decide) hL15 (fun _ h9 => h9) rfl d_Items_setNeed_17 ?_
  refine lv_iload_n hx hb d_Items_setNeed_20 rfl (lv_at hl 2 rfl) ?_
  refine lv_iload_n hx hb d_Items_setNeed_21 rfl (lv_at hl 3 rfl) ?_
  obtain ⟨hi_4, hf⟩ := q_ck hf
  refine va_iast hx hb hK hP hD hS 1 0 rfl rfl hi_4 d_Items_setNeed_22 (fun H locs hP hD hS => ?_)
  replace hP : va_P D vwCl [(ad 5, .inr (2, [.ref (ad 6), .ref (ad 7), .ref (ad 8), .ref (ad 9), .ref (ad 10), .ref (ad 11), .ref (ad 12), .int v_items_mustSet, .int v_items_count])), (ad 7, .inl (ki 0, n_inee, .inl (upd v_inee (Int32.toNatClampNeg p1) p2)))] H := hP
  replace hD : va_D A [(ad 5, .inr (2, [.ref (ad 6), .ref (ad 7), .ref (ad 8), .ref (ad 9), .ref (ad 10), .ref (ad 11), .ref (ad 12), .int v_items_mustSet, .int v_items_count])), (ad 7, .inl (ki 0, n_inee, .inl (upd v_inee (Int32.toNatClampNeg p1) p2)))] := hD
  refine lv_iload_n hx hb d_Items_setNeed_23 rfl (lv_at hl 0 rfl) ?_
  cases hf
  exact W.zret (v := bI true) hx hb hr (bI_nar _) (fun t ht hW => ⟨rfl, by rw [ht]; exact hP, hS.F ht⟩) hS.2.2 d_Items_setNeed_24
def f_Items_nearWorthOf (N : Nat) (n_inea : Nat) (v_items_mustSet : Int32) (v_items_count : Int32) (v_inea : Nat → Int64) (p1 : Int32) (p2 : Int32) : Option (Int64) := (if ((p1 * 8) + p2) < 0 ∨ n_inea ≤ Int32.toNatClampNeg ((p1 * 8) + p2) then none else (some (v_inea (Int32.toNatClampNeg ((p1 * 8) + p2)))))
set_option maxRecDepth 100000 in
set_option maxHeartbeats 4000000 in
theorem c_Items_nearWorthOf (l : Launch) (D : va_G) (ad : Nat → Nat) (ki : Nat → ClassId) (n_inea : Nat) (v_items_mustSet : Int32) (v_items_count : Int32) (v_inea : Nat → Int64) (p1 : Int32) (p2 : Int32) (N : Nat) (r : Int64) (hf : f_Items_nearWorthOf N n_inea v_items_mustSet v_items_count v_inea p1 p2 = some r) : Met l y_Items_nearWorthOf w_Items_nearWorthOf { frames := 0, cells := 0, slots := 0, locals := 0 } (q_PcP [.ref (ad 5), .int p1, .int p2] D vwCl [(ad 5, .inr (2, [.ref (ad 6), .ref (ad 7), .ref (ad 8), .ref (ad 9), .ref (ad 10), .ref (ad 11), .ref (ad 12), .int v_items_mustSet, .int v_items_count])), (ad 9, .inl (ki 1, n_inea, .inr (.inl v_inea)))] (TYS ki)) (k2_QcV (.long r)) 0 0 (fun _ => False) := by
  refine Met.ofW (cc := b_Items_nearWorthOf) (maxL := 3) (ret := (some .long)) (by decide) rfl ?_
  intro p e s m args below meth c s₁ B hml hv
  obtain ⟨rfl, hP, hK, hE⟩ := hv
  have hx := B.exec
  have hb := B.bytes
  have hr := B.returns
  have hts := atoms_spec (ws := w_Items_nearWorthOf) B.pre
  have hown : s.vm.findClass R_Items = some m.cls := findClass_of_methodNamed B.named
  have hlocks := B.notSynchronized
  have hn_Items : ∀ w ∈ u_ws R_Items F_Items 9, w ∈ w_Items_nearWorthOf := (fun w h => List.mem_cons_of_mem _ (i_Items w h))
  have hL21 := hts (.fieldLink R_Items 21 "RoomFills$Items" "nearWorth" "[J") (List.mem_cons_of_mem _ m_126)
  replace hP : va_P D vwCl [(ad 5, .inr (2, [.ref (ad 6), .ref (ad 7), .ref (ad 8), .ref (ad 9), .ref (ad 10), .ref (ad 11), .ref (ad 12), .int v_items_mustSet, .int v_items_count])), (ad 9, .inl (ki 1, n_inea, .inr (.inl v_inea)))] s.heap := hP
  have hl := lv_entry ([.ref (ad 5), .int p1, .int p2]) (n := 3) (Nat.le_of_ble_eq_true rfl)
  rw [lg_entry_eq]
  generalize (lg_sl ([.ref (ad 5), .int p1, .int p2]) ++ List.replicate (3 - (lg_sl ([.ref (ad 5), .int p1, .int p2])).length) Slot.unset).toArray = ls at hl ⊢
  replace hl : lv_has ls 3 [(0, .ref (ad 5)), (1, .int p1), (2, .int p2)] := hl
  unfold f_Items_nearWorthOf at hf
  refine lv_aload_n hx hb d_Items_nearWorthOf_0 rfl (lv_at hl 0 rfl) ?_
  refine va_get (D := D) (ci := 2) (v := .ref (ad 9)) (C := R_Items) (T := F_Items) (N := 9) hx hb hts hn_Items hown hK hP 0 rfl rfl 3 (by decide) hL21 (fun _ h9 => h9) rfl d_Items_nearWorthOf_1 ?_
  refine lv_iload_n hx hb d_Items_nearWorthOf_4 rfl (lv_at hl 1 rfl) ?_
  refine lv_bipush (v := 8) hx hb d_Items_nearWorthOf_5 (by decide) ?_
  refine lv_imul hx hb d_Items_nearWorthOf_7 ?_
  refine lv_iload_n hx hb d_Items_nearWorthOf_8 rfl (lv_at hl 2 rfl) ?_
  refine lv_iadd hx hb d_Items_nearWorthOf_9 ?_
  obtain ⟨hi_1, hf⟩ := q_ck hf
  refine va_lald hx hb hK hP 1 1 rfl rfl hi_1 d_Items_nearWorthOf_10 ?_
  cases hf
  exact W.lret (v := (v_inea (Int32.toNatClampNeg ((p1 * 8) + p2)))) hx hb hr (fun t ht hW => ⟨rfl, ht⟩) (fun q h => nomatch h) d_Items_nearWorthOf_11
def f_Items_setNear (N : Nat) (n_inea : Nat) (v_items_mustSet : Int32) (v_items_count : Int32) (v_inea : Nat → Int64) (p1 : Int32) (p2 : Int32) (p3 : Int64) : Option (Bool × (Nat → Int64)) := (Option.bind (f_Items_nearWorthOf N n_inea v_items_mustSet v_items_count v_inea p1 p2) (fun r_1 => (if (lg_cmp r_1 p3) = 0 then (if ((p1 * 8) + p2) < 0 ∨ n_inea ≤ Int32.toNatClampNeg ((p1 * 8) + p2) then none else (if ((p2 * 8) + p1) < 0 ∨ n_inea ≤ Int32.toNatClampNeg ((p2 * 8) + p1) then none else (some (false, (vp_updL (vp_updL v_inea (Int32.toNatClampNeg ((p1 * 8) + p2)) p3) (Int32.toNatClampNeg ((p2 * 8) + p1)) p3))))) else (if ((p1 * 8) + p2) < 0 ∨ n_inea ≤ Int32.toNatClampNeg ((p1 * 8) + p2) then none else (if ((p2 * 8) + p1) < 0 ∨ n_inea ≤ Int32.toNatClampNeg ((p2 * 8) + p1) then none else (some (true, (vp_updL (vp_updL v_inea (Int32.toNatClampNeg ((p1 * 8) + p2)) p3) (Int32.toNatClampNeg ((p2 * 8) + p1)) p3))))))))
set_option maxRecDepth 100000 in
set_option maxHeartbeats 4000000 in
theorem c_Items_setNear (l : Launch) (D : va_G) (ad : Nat → Nat) (ki : Nat → ClassId) (n_inea : Nat) (v_items_mustSet : Int32) (v_items_count : Int32) (v_inea : Nat → Int64) (p1 : Int32) (p2 : Int32) (p3 : Int64) (N : Nat) (sz : Nat) (r : Bool) (ov_inea : Nat → Int64) (hf : f_Items_setNear N n_inea v_items_mustSet v_items_count v_inea p1 p2 p3 = some (r, ov_inea)) : Met l y_Items_setNear w_Items_setNear { frames := 1, cells := 0, slots := 0, locals := 22 } (q_PcM [.ref (ad 5), .int p1, .int p2, .long p3] D vwCl [(ad 5, .inr (2, [.ref (ad 6), .ref (ad 7), .ref (ad 8), .ref (ad 9), .ref (ad 10), .ref (ad 11), .ref (ad 12), .int v_items_mustSet, .int v_items_count])), (ad 9, .inl (ki 1, n_inea, .inr (.inl v_inea)))] (TYS ki) sz) (q_Qm (some (.int (bI r))) D vwCl [(ad 5, .inr (2, [.ref (ad 6), .ref (ad 7), .ref (ad 8), .ref (ad 9), .ref (ad 10), .ref (ad 11), .ref (ad 12), .int v_items_mustSet, .int v_items_count])), (ad 9, .inl (ki 1, n_inea, .inr (.inl ov_inea)))] (va_A [(ad 5, .inr (2, [.ref (ad 6), .ref (ad 7), .ref (ad 8), .ref (ad 9), .ref (ad 10), .ref (ad 11), .ref (ad 12), .int v_items_mustSet, .int v_items_count])), (ad 9, .inl (ki 1, n_inea, .inr (.inl v_inea)))] sz)) 0 0 (va_A [(ad 5, .inr (2, [.ref (ad 6), .ref (ad 7), .ref (ad 8), .ref (ad 9), .ref (ad 10), .ref (ad 11), .ref (ad 12), .int v_items_mustSet, .int v_items_count])), (ad 9, .inl (ki 1, n_inea, .inr (.inl v_inea)))] sz) := by
  refine Met.ofW (cc := b_Items_setNear) (maxL := 6) (ret := (some .boolean)) (by decide) rfl ?_
  intro p e s m args below meth c s₁ B hml hv
  obtain ⟨rfl, hsz, hP, hK, hD0, hE⟩ := hv
  have hx := B.exec
  have hb := B.bytes
  have hr := B.returns
  have hts := atoms_spec (ws := w_Items_setNear) B.pre
  have hown : s.vm.findClass R_Items = some m.cls := findClass_of_methodNamed B.named
  have hlocks := B.notSynchronized
  have hn_Items : ∀ w ∈ u_ws R_Items F_Items 9, w ∈ w_Items_setNear := (fun w h => List.mem_cons_of_mem _ (i_Items w h))
  have hL21 := hts (.fieldLink R_Items 21 "RoomFills$Items" "nearWorth" "[J") (List.mem_cons_of_mem _ m_126)
  subst hsz
  have hD := hD0.self (sz := s.heap.size)
  generalize hAe : va_A [(ad 5, .inr (2, [.ref (ad 6), .ref (ad 7), .ref (ad 8), .ref (ad 9), .ref (ad 10), .ref (ad 11), .ref (ad 12), .int v_items_mustSet, .int v_items_count])), (ad 9, .inl (ki 1, n_inea, .inr (.inl v_inea)))] s.heap.size = A at hD ⊢
  have hA : ∀ q : Nat, s.heap.size ≤ q → A q := fun q h => by rw [← hAe]; exact Or.inr h
  have hS : va_S A s.heap s.heap [] := va_S.rf
  replace hP : va_P D vwCl [(ad 5, .inr (2, [.ref (ad 6), .ref (ad 7), .ref (ad 8), .ref (ad 9), .ref (ad 10), .ref (ad 11), .ref (ad 12), .int v_items_mustSet, .int v_items_count])), (ad 9, .inl (ki 1, n_inea, .inr (.inl v_inea)))] s.heap := hP
  have hl := lv_entry ([.ref (ad 5), .int p1, .int p2, .long p3]) (n := 6) (Nat.le_of_ble_eq_true rfl)
  rw [lg_entry_eq]
  generalize (lg_sl ([.ref (ad 5), .int p1, .int p2, .long p3]) ++ List.replicate (6 - (lg_sl ([.ref (ad 5), .int p1, .int p2, .long p3])).length) Slot.unset).toArray = ls at hl ⊢
  replace hl : lv_has ls 6 [(0, .ref (ad 5)), (1, .int p1), (2, .int p2), (3, .long p3)] := hl
  unfold f_Items_setNear at hf
  refine lv_aload_n hx hb d_Items_setNear_0 rfl (lv_at hl 0 rfl) ?_
  refine lv_iload_n hx hb d_Items_setNear_1 rfl (lv_at hl 1 rfl) ?_
  refine lv_iload_n hx hb d_Items_setNear_2 rfl (lv_at hl 2 rfl) ?_
  obtain ⟨r_1, hc_1, hf⟩ := q_mb hf
  refine q_pcall (W.runV (As := [.int p1, .int p2]) (rest := []) ⟨hx, hb, hml, hown, hts⟩ (c_Items_nearWorthOf l D ad ki n_inea v_items_mustSet v_items_count v_inea p1 p2 N r_1 hc_1) (cwV 2 hts (q_goodV ⟨m_743, m_461, m_462, m_57⟩ m_463) rfl rfl rfl (by decide +kernel) ⟨Nat.le_of_ble_eq_true rfl, Nat.le_of_ble_eq_true rfl⟩) (q_preVP (wc := [(ad 5, .inr (2, [.ref (ad 6), .ref (ad 7), .ref (ad 8), .ref (ad 9), .ref (ad 10), .ref (ad 11), .ref (ad 12), .int v_items_mustSet, .int v_items_count])), (ad 9, .inl (ki 1, n_inea, .inr (.inl v_inea)))]) hE hK hP [0, 1] rfl 0 2 rfl rfl) rfl rfl hl.1 rfl (lv_room (Nat.le_of_ble_eq_true rfl)) d_Items_setNear_3 ⟨Nat.le_of_ble_eq_true rfl, Nat.le_of_ble_eq_true rfl⟩) ?_
  refine lv_lload_n hx hb d_Items_setNear_6 rfl (lv_at hl 3 rfl) ?_
  refine W.lcmp hx hb d_Items_setNear_7 ?_
  refine lv_if_eq (tgt := 15) hx hb d_Items_setNear_8 (by decide) (fun c_2 => ?_) (fun c_2 => ?_)
  · replace hf := q_it hf c_2
    refine lv_iconst (v := 0) hx hb d_Items_setNear_15 (by decide) ?_
    refine lv_istore (lv' := [(5, .int (bI false)), (0, .ref (ad 5)), (1, .int p1), (2, .int p2), (3, .long p3)]) hx hb d_Items_setNear_16 hl (by decide) rfl (fun ls hl => ?_)
    refine lv_aload_n hx hb d_Items_setNear_18 rfl (lv_at hl 1 rfl) ?_
    refine va_get (D := D) (ci := 2) (v := .ref (ad 9)) (C := R_Items) (T := F_Items) (N := 9) hx hb hts hn_Items hown hK hP 0 rfl rfl 3 (by decide) hL21 (fun _ h9 => h9) rfl d_Items_setNear_19 ?_
    refine lv_iload_n hx hb d_Items_setNear_22 rfl (lv_at hl 2 rfl) ?_
    refine lv_bipush (v := 8) hx hb d_Items_setNear_23 (by decide) ?_
    refine lv_imul hx hb d_Items_setNear_25 ?_
    refine lv_iload_n hx hb d_Items_setNear_26 rfl (lv_at hl 3 rfl) ?_
    refine lv_iadd hx hb d_Items_setNear_27 ?_
    refine lv_lload_n hx hb d_Items_setNear_28 rfl (lv_at hl 4 rfl) ?_
    obtain ⟨hi_3, hf⟩ := q_ck hf
    refine va_last hx hb hK hP hD hS 1 1 rfl rfl hi_3 d_Items_setNear_29 (fun H locs hP hD hS => ?_)
    replace hP : va_P D vwCl [(ad 5, .inr (2, [.ref (ad 6), .ref (ad 7), .ref (ad 8), .ref (ad 9), .ref (ad 10), .ref (ad 11), .ref (ad 12), .int v_items_mustSet, .int v_items_count])), (ad 9, .inl (ki 1, n_inea, .inr (.inl (vp_updL v_inea (Int32.toNatClampNeg ((p1 * 8) + p2)) p3))))] H := hP
    replace hD : va_D A [(ad 5, .inr (2, [.ref (ad 6), .ref (ad 7), .ref (ad 8), .ref (ad 9), .ref (ad 10), .ref (ad 11), .ref (ad 12), .int v_items_mustSet, .int v_items_count])), (ad 9, .inl (ki 1, n_inea, .inr (.inl (vp_updL v_inea (Int32.toNatClampNeg ((p1 * 8) + p2)) p3))))] := hD
    refine lv_aload_n hx hb d_Items_setNear_30 rfl (lv_at hl 1 rfl) ?_
    refine va_get (D := D) (ci := 2) (v := .ref (ad 9)) (C := R_Items) (T := F_Items) (N := 9) hx hb hts hn_Items hown hK hP 0 rfl rfl 3 (by decide) hL21 (fun _ h9 => h9) rfl d_Items_setNear_31 ?_
    refine lv_iload_n hx hb d_Items_setNear_34 rfl (lv_at hl 3 rfl) ?_
    refine lv_bipush (v := 8) hx hb d_Items_setNear_35 (by decide) ?_
    refine lv_imul hx hb d_Items_setNear_37 ?_
    refine lv_iload_n hx hb d_Items_setNear_38 rfl (lv_at hl 2 rfl) ?_
    refine lv_iadd hx hb d_Items_setNear_39 ?_
    refine lv_lload_n hx hb d_Items_setNear_40 rfl (lv_at hl 4 rfl) ?_
    obtain ⟨hi_4, hf⟩ := q_ck hf
    refine va_last hx hb hK hP hD hS 1 1 rfl rfl hi_4 d_Items_setNear_41 (fun H locs hP hD hS => ?_)
    replace hP : va_P D vwCl [(ad 5, .inr (2, [.ref (ad 6), .ref (ad 7), .ref (ad 8), .ref (ad 9), .ref (ad 10), .ref (ad 11), .ref (ad 12), .int v_items_mustSet, .int v_items_count])), (ad 9, .inl (ki 1, n_inea, .inr (.inl (vp_updL (vp_updL v_inea (Int32.toNatClampNeg ((p1 * 8) + p2)) p3) (Int32.toNatClampNeg ((p2 * 8) + p1)) p3))))] H := hP
    replace hD : va_D A [(ad 5, .inr (2, [.ref (ad 6), .ref (ad 7), .ref (ad 8), .ref (ad 9), .ref (ad 10), .ref (ad 11), .ref (ad 12), .int v_items_mustSet, .int v_items_count])), (ad 9, .inl (ki 1, n_inea, .inr (.inl (vp_updL (vp_updL v_inea (Int32.toNatClampNeg ((p1 * 8) + p2)) p3) (Int32.toNatClampNeg ((p2 * 8) + p1)) p3))))] := hD
    refine lv_iload hx hb d_Items_setNear_42 (lv_at hl 0 rfl) ?_
    cases hf
    exact W.zret (v := bI false) hx hb hr (bI_nar _) (fun t ht hW => ⟨rfl, by rw [ht]; exact hP, hS.F ht⟩) hS.2.2 d_Items_setNear_44
  replace hf := q_ie hf c_2
  refine lv_iconst (v := 1) hx hb d_Items_setNear_11 (by decide) ?_
  refine lv_goto (tgt := 16) hx hb d_Items_setNear_12 (by decide) ?_
  refine lv_istore (lv' := [(5, .int (bI true)), (0, .ref (ad 5)), (1, .int p1), (2, .int p2), (3, .long p3)]) hx hb d_Items_setNear_16 hl (by decide) rfl (fun ls hl => ?_)
  refine lv_aload_n hx hb d_Items_setNear_18 rfl (lv_at hl 1 rfl) ?_
  refine va_get (D := D) (ci := 2) (v := .ref (ad 9)) (C := R_Items) (T := F_Items) (N := 9) hx hb hts hn_Items hown hK hP 0 rfl rfl 3 (by decide) hL21 (fun _ h9 => h9) rfl d_Items_setNear_19 ?_
  refine lv_iload_n hx hb d_Items_setNear_22 rfl (lv_at hl 2 rfl) ?_
  refine lv_bipush (v := 8) hx hb d_Items_setNear_23 (by decide) ?_
  refine lv_imul hx hb d_Items_setNear_25 ?_
  refine lv_iload_n hx hb d_Items_setNear_26 rfl (lv_at hl 3 rfl) ?_
  refine lv_iadd hx hb d_Items_setNear_27 ?_
  refine lv_lload_n hx hb d_Items_setNear_28 rfl (lv_at hl 4 rfl) ?_
  obtain ⟨hi_5, hf⟩ := q_ck hf
  refine va_last hx hb hK hP hD hS 1 1 rfl rfl hi_5 d_Items_setNear_29 (fun H locs hP hD hS => ?_)
  replace hP : va_P D vwCl [(ad 5, .inr (2, [.ref (ad 6), .ref (ad 7), .ref (ad 8), .ref (ad 9), .ref (ad 10), .ref (ad 11), .ref (ad 12), .int v_items_mustSet, .int v_items_count])), (ad 9, .inl (ki 1, n_inea, .inr (.inl (vp_updL v_inea (Int32.toNatClampNeg ((p1 * 8) + p2)) p3))))] H := hP
  replace hD : va_D A [(ad 5, .inr (2, [.ref (ad 6), .ref (ad 7), .ref (ad 8), .ref (ad 9), .ref (ad 10), .ref (ad 11), .ref (ad 12), .int v_items_mustSet, .int v_items_count])), (ad 9, .inl (ki 1, n_inea, .inr (.inl (vp_updL v_inea (Int32.toNatClampNeg ((p1 * 8) + p2)) p3))))] := hD
  refine lv_aload_n hx hb d_Items_setNear_30 rfl (lv_at hl 1 rfl) ?_
  refine va_get (D := D) (ci := 2) (v := .ref (ad 9)) (C := R_Items) (T := F_Items) (N := 9) hx hb hts hn_Items hown hK hP 0 rfl rfl 3 (by decide) hL21 (fun _ h9 => h9) rfl d_Items_setNear_31 ?_
  refine lv_iload_n hx hb d_Items_setNear_34 rfl (lv_at hl 3 rfl) ?_
  refine lv_bipush (v := 8) hx hb d_Items_setNear_35 (by decide) ?_
  refine lv_imul hx hb d_Items_setNear_37 ?_
  refine lv_iload_n hx hb d_Items_setNear_38 rfl (lv_at hl 2 rfl) ?_
  refine lv_iadd hx hb d_Items_setNear_39 ?_
  refine lv_lload_n hx hb d_Items_setNear_40 rfl (lv_at hl 4 rfl) ?_
  obtain ⟨hi_6, hf⟩ := q_ck hf
  refine va_last hx hb hK hP hD hS 1 1 rfl rfl hi_6 d_Items_setNear_41 (fun H locs hP hD hS => ?_)
  replace hP : va_P D vwCl [(ad 5, .inr (2, [.ref (ad 6), .ref (ad 7), .ref (ad 8), .ref (ad 9), .ref (ad 10), .ref (ad 11), .ref (ad 12), .int v_items_mustSet, .int v_items_count])), (ad 9, .inl (ki 1, n_inea, .inr (.inl (vp_updL (vp_updL v_inea (Int32.toNatClampNeg ((p1 * 8) + p2)) p3) (Int32.toNatClampNeg ((p2 * 8) + p1)) p3))))] H := hP
  replace hD : va_D A [(ad 5, .inr (2, [.ref (ad 6), .ref (ad 7), .ref (ad 8), .ref (ad 9), .ref (ad 10), .ref (ad 11), .ref (ad 12), .int v_items_mustSet, .int v_items_count])), (ad 9, .inl (ki 1, n_inea, .inr (.inl (vp_updL (vp_updL v_inea (Int32.toNatClampNeg ((p1 * 8) + p2)) p3) (Int32.toNatClampNeg ((p2 * 8) + p1)) p3))))] := hD
  refine lv_iload hx hb d_Items_setNear_42 (lv_at hl 0 rfl) ?_
  cases hf
  exact W.zret (v := bI true) hx hb hr (bI_nar _) (fun t ht hW => ⟨rfl, by rw [ht]; exact hP, hS.F ht⟩) hS.2.2 d_Items_setNear_44
def f_Items_isBarred (N : Nat) (n_ibar : Nat) (v_items_mustSet : Int32) (v_items_count : Int32) (v_ibar : Nat → Int32) (p1 : Int32) (p2 : Int32) : Option (Bool) := (if p1 < 0 ∨ n_ibar ≤ Int32.toNatClampNeg p1 then none else (if ((v_ibar (Int32.toNatClampNeg p1)) &&& (1 <<< (p2 &&& 31))) = 0 then (some false) else (some true)))
set_option maxRecDepth 100000 in
set_option maxHeartbeats 4000000 in
theorem c_Items_isBarred (l : Launch) (D : va_G) (ad : Nat → Nat) (ki : Nat → ClassId) (n_ibar : Nat) (v_items_mustSet : Int32) (v_items_count : Int32) (v_ibar : Nat → Int32) (p1 : Int32) (p2 : Int32) (N : Nat) (r : Bool) (hf : f_Items_isBarred N n_ibar v_items_mustSet v_items_count v_ibar p1 p2 = some r) : Met l y_Items_isBarred w_Items_isBarred { frames := 0, cells := 0, slots := 0, locals := 0 } (q_PcP [.ref (ad 5), .int p1, .int p2] D vwCl [(ad 5, .inr (2, [.ref (ad 6), .ref (ad 7), .ref (ad 8), .ref (ad 9), .ref (ad 10), .ref (ad 11), .ref (ad 12), .int v_items_mustSet, .int v_items_count])), (ad 8, .inl (ki 0, n_ibar, .inl v_ibar))] (TYS ki)) (k2_QcV (.int (bI r))) 0 0 (fun _ => False) := by
  refine Met.ofW (cc := b_Items_isBarred) (maxL := 3) (ret := (some .boolean)) (by decide) rfl ?_
  intro p e s m args below meth c s₁ B hml hv
  obtain ⟨rfl, hP, hK, hE⟩ := hv
  have hx := B.exec
  have hb := B.bytes
  have hr := B.returns
  have hts := atoms_spec (ws := w_Items_isBarred) B.pre
  have hown : s.vm.findClass R_Items = some m.cls := findClass_of_methodNamed B.named
  have hlocks := B.notSynchronized
  have hn_Items : ∀ w ∈ u_ws R_Items F_Items 9, w ∈ w_Items_isBarred := (fun w h => List.mem_cons_of_mem _ (i_Items w h))
  have hL18 := hts (.fieldLink R_Items 18 "RoomFills$Items" "barredSet" "[I") (List.mem_cons_of_mem _ m_124)
  replace hP : va_P D vwCl [(ad 5, .inr (2, [.ref (ad 6), .ref (ad 7), .ref (ad 8), .ref (ad 9), .ref (ad 10), .ref (ad 11), .ref (ad 12), .int v_items_mustSet, .int v_items_count])), (ad 8, .inl (ki 0, n_ibar, .inl v_ibar))] s.heap := hP
  have hl := lv_entry ([.ref (ad 5), .int p1, .int p2]) (n := 3) (Nat.le_of_ble_eq_true rfl)
  rw [lg_entry_eq]
  generalize (lg_sl ([.ref (ad 5), .int p1, .int p2]) ++ List.replicate (3 - (lg_sl ([.ref (ad 5), .int p1, .int p2])).length) Slot.unset).toArray = ls at hl ⊢
  replace hl : lv_has ls 3 [(0, .ref (ad 5)), (1, .int p1), (2, .int p2)] := hl
  unfold f_Items_isBarred at hf
  refine lv_aload_n hx hb d_Items_isBarred_0 rfl (lv_at hl 0 rfl) ?_
  refine va_get (D := D) (ci := 2) (v := .ref (ad 8)) (C := R_Items) (T := F_Items) (N := 9) hx hb hts hn_Items hown hK hP 0 rfl rfl 2 (by decide) hL18 (fun _ h9 => h9) rfl d_Items_isBarred_1 ?_
  refine lv_iload_n hx hb d_Items_isBarred_4 rfl (lv_at hl 1 rfl) ?_
  obtain ⟨hi_1, hf⟩ := q_ck hf
  refine va_iald hx hb hK hP 1 0 rfl rfl hi_1 d_Items_isBarred_5 ?_
  refine lv_iconst (v := 1) hx hb d_Items_isBarred_6 (by decide) ?_
  refine lv_iload_n hx hb d_Items_isBarred_7 rfl (lv_at hl 2 rfl) ?_
  refine lv_ishl hx hb d_Items_isBarred_8 ?_
  refine lv_iand hx hb d_Items_isBarred_9 ?_
  refine lv_if_eq (tgt := 17) hx hb d_Items_isBarred_10 (by decide) (fun c_2 => ?_) (fun c_2 => ?_)
  · replace hf := q_it hf c_2
    refine lv_iconst (v := 0) hx hb d_Items_isBarred_17 (by decide) ?_
    cases hf
    exact W.zret (v := bI false) hx hb hr (bI_nar _) (fun t ht hW => ⟨rfl, ht⟩) (fun q h => nomatch h) d_Items_isBarred_18
  replace hf := q_ie hf c_2
  refine lv_iconst (v := 1) hx hb d_Items_isBarred_13 (by decide) ?_
  refine lv_goto (tgt := 18) hx hb d_Items_isBarred_14 (by decide) ?_
  cases hf
  exact W.zret (v := bI true) hx hb hr (bI_nar _) (fun t ht hW => ⟨rfl, ht⟩) (fun q h => nomatch h) d_Items_isBarred_18
def f_Items_setBarred (N : Nat) (n_ibar : Nat) (v_items_mustSet : Int32) (v_items_count : Int32) (v_ibar : Nat → Int32) (p1 : Int32) (p2 : Int32) : Option (Bool × (Nat → Int32)) := (Option.bind (f_Items_isBarred N n_ibar v_items_mustSet v_items_count v_ibar p1 p2) (fun r_1 => (if r_1 = true then (if p1 < 0 ∨ n_ibar ≤ Int32.toNatClampNeg p1 then none else (if p1 < 0 ∨ n_ibar ≤ Int32.toNatClampNeg p1 then none else (if p2 < 0 ∨ n_ibar ≤ Int32.toNatClampNeg p2 then none else (if p2 < 0 ∨ n_ibar ≤ Int32.toNatClampNeg p2 then none else (some (false, (upd (upd v_ibar (Int32.toNatClampNeg p1) ((v_ibar (Int32.toNatClampNeg p1)) ||| (1 <<< (p2 &&& 31)))) (Int32.toNatClampNeg p2) (((upd v_ibar (Int32.toNatClampNeg p1) ((v_ibar (Int32.toNatClampNeg p1)) ||| (1 <<< (p2 &&& 31)))) (Int32.toNatClampNeg p2)) ||| (1 <<< (p1 &&& 31)))))))))) else (if p1 < 0 ∨ n_ibar ≤ Int32.toNatClampNeg p1 then none else (if p1 < 0 ∨ n_ibar ≤ Int32.toNatClampNeg p1 then none else (if p2 < 0 ∨ n_ibar ≤ Int32.toNatClampNeg p2 then none else (if p2 < 0 ∨ n_ibar ≤ Int32.toNatClampNeg p2 then none else (some (true, (upd (upd v_ibar (Int32.toNatClampNeg p1) ((v_ibar (Int32.toNatClampNeg p1)) ||| (1 <<< (p2 &&& 31)))) (Int32.toNatClampNeg p2) (((upd v_ibar (Int32.toNatClampNeg p1) ((v_ibar (Int32.toNatClampNeg p1)) ||| (1 <<< (p2 &&& 31)))) (Int32.toNatClampNeg p2)) ||| (1 <<< (p1 &&& 31)))))))))))))
set_option maxRecDepth 100000 in
set_option maxHeartbeats 4000000 in
theorem c_Items_setBarred (l : Launch) (D : va_G) (ad : Nat → Nat) (ki : Nat → ClassId) (n_ibar : Nat) (v_items_mustSet : Int32) (v_items_count : Int32) (v_ibar : Nat → Int32) (p1 : Int32) (p2 : Int32) (N : Nat) (sz : Nat) (r : Bool) (ov_ibar : Nat → Int32) (hf : f_Items_setBarred N n_ibar v_items_mustSet v_items_count v_ibar p1 p2 = some (r, ov_ibar)) : Met l y_Items_setBarred w_Items_setBarred { frames := 1, cells := 0, slots := 0, locals := 22 } (q_PcM [.ref (ad 5), .int p1, .int p2] D vwCl [(ad 5, .inr (2, [.ref (ad 6), .ref (ad 7), .ref (ad 8), .ref (ad 9), .ref (ad 10), .ref (ad 11), .ref (ad 12), .int v_items_mustSet, .int v_items_count])), (ad 8, .inl (ki 0, n_ibar, .inl v_ibar))] (TYS ki) sz) (q_Qm (some (.int (bI r))) D vwCl [(ad 5, .inr (2, [.ref (ad 6), .ref (ad 7), .ref (ad 8), .ref (ad 9), .ref (ad 10), .ref (ad 11), .ref (ad 12), .int v_items_mustSet, .int v_items_count])), (ad 8, .inl (ki 0, n_ibar, .inl ov_ibar))] (va_A [(ad 5, .inr (2, [.ref (ad 6), .ref (ad 7), .ref (ad 8), .ref (ad 9), .ref (ad 10), .ref (ad 11), .ref (ad 12), .int v_items_mustSet, .int v_items_count])), (ad 8, .inl (ki 0, n_ibar, .inl v_ibar))] sz)) 0 0 (va_A [(ad 5, .inr (2, [.ref (ad 6), .ref (ad 7), .ref (ad 8), .ref (ad 9), .ref (ad 10), .ref (ad 11), .ref (ad 12), .int v_items_mustSet, .int v_items_count])), (ad 8, .inl (ki 0, n_ibar, .inl v_ibar))] sz) := by
  refine Met.ofW (cc := b_Items_setBarred) (maxL := 4) (ret := (some .boolean)) (by decide) rfl ?_
  intro p e s m args below meth c s₁ B hml hv
  obtain ⟨rfl, hsz, hP, hK, hD0, hE⟩ := hv
  have hx := B.exec
  have hb := B.bytes
  have hr := B.returns
  have hts := atoms_spec (ws := w_Items_setBarred) B.pre
  have hown : s.vm.findClass R_Items = some m.cls := findClass_of_methodNamed B.named
  have hlocks := B.notSynchronized
  have hn_Items : ∀ w ∈ u_ws R_Items F_Items 9, w ∈ w_Items_setBarred := (fun w h => List.mem_cons_of_mem _ (i_Items w h))
  have hL18 := hts (.fieldLink R_Items 18 "RoomFills$Items" "barredSet" "[I") (List.mem_cons_of_mem _ m_124)
  subst hsz
  have hD := hD0.self (sz := s.heap.size)
  generalize hAe : va_A [(ad 5, .inr (2, [.ref (ad 6), .ref (ad 7), .ref (ad 8), .ref (ad 9), .ref (ad 10), .ref (ad 11), .ref (ad 12), .int v_items_mustSet, .int v_items_count])), (ad 8, .inl (ki 0, n_ibar, .inl v_ibar))] s.heap.size = A at hD ⊢
  have hA : ∀ q : Nat, s.heap.size ≤ q → A q := fun q h => by rw [← hAe]; exact Or.inr h
  have hS : va_S A s.heap s.heap [] := va_S.rf
  replace hP : va_P D vwCl [(ad 5, .inr (2, [.ref (ad 6), .ref (ad 7), .ref (ad 8), .ref (ad 9), .ref (ad 10), .ref (ad 11), .ref (ad 12), .int v_items_mustSet, .int v_items_count])), (ad 8, .inl (ki 0, n_ibar, .inl v_ibar))] s.heap := hP
  have hl := lv_entry ([.ref (ad 5), .int p1, .int p2]) (n := 4) (Nat.le_of_ble_eq_true rfl)
  rw [lg_entry_eq]
  generalize (lg_sl ([.ref (ad 5), .int p1, .int p2]) ++ List.replicate (4 - (lg_sl ([.ref (ad 5), .int p1, .int p2])).length) Slot.unset).toArray = ls at hl ⊢
  replace hl : lv_has ls 4 [(0, .ref (ad 5)), (1, .int p1), (2, .int p2)] := hl
  unfold f_Items_setBarred at hf
  refine lv_aload_n hx hb d_Items_setBarred_0 rfl (lv_at hl 0 rfl) ?_
  refine lv_iload_n hx hb d_Items_setBarred_1 rfl (lv_at hl 1 rfl) ?_
  refine lv_iload_n hx hb d_Items_setBarred_2 rfl (lv_at hl 2 rfl) ?_
  obtain ⟨r_1, hc_1, hf⟩ := q_mb hf
  refine q_pcall (W.runV (As := [.int p1, .int p2]) (rest := []) ⟨hx, hb, hml, hown, hts⟩ (c_Items_isBarred l D ad ki n_ibar v_items_mustSet v_items_count v_ibar p1 p2 N r_1 hc_1) (cwV 2 hts (q_goodV ⟨m_755, m_457, m_458, m_57⟩ m_459) rfl rfl rfl (by decide +kernel) ⟨Nat.le_of_ble_eq_true rfl, Nat.le_of_ble_eq_true rfl⟩) (q_preVP (wc := [(ad 5, .inr (2, [.ref (ad 6), .ref (ad 7), .ref (ad 8), .ref (ad 9), .ref (ad 10), .ref (ad 11), .ref (ad 12), .int v_items_mustSet, .int v_items_count])), (ad 8, .inl (ki 0, n_ibar, .inl v_ibar))]) hE hK hP [0, 1] rfl 0 2 rfl rfl) rfl rfl hl.1 rfl (lv_room (Nat.le_of_ble_eq_true rfl)) d_Items_setBarred_3 ⟨Nat.le_of_ble_eq_true rfl, Nat.le_of_ble_eq_true rfl⟩) ?_
  refine zv_ne (tgt := 13) hx hb d_Items_setBarred_6 (by decide) (fun c_2 => ?_) (fun c_2 => ?_)
  · replace hf := q_it hf c_2
    refine lv_iconst (v := 0) hx hb d_Items_setBarred_13 (by decide) ?_
    refine lv_istore_n (lv' := [(3, .int (bI false)), (0, .ref (ad 5)), (1, .int p1), (2, .int p2)]) hx hb d_Items_setBarred_14 rfl hl (by decide) rfl (fun ls hl => ?_)
    refine lv_aload_n hx hb d_Items_setBarred_15 rfl (lv_at hl 1 rfl) ?_
    refine va_get (D := D) (ci := 2) (v := .ref (ad 8)) (C := R_Items) (T := F_Items) (N := 9) hx hb hts hn_Items hown hK hP 0 rfl rfl 2 (by decide) hL18 (fun _ h9 => h9) rfl d_Items_setBarred_16 ?_
    refine lv_iload_n hx hb d_Items_setBarred_19 rfl (lv_at hl 2 rfl) ?_
    refine lv_dup2_11 hx hb d_Items_setBarred_20 rfl rfl ?_
    obtain ⟨hi_3, hf⟩ := q_ck hf
    refine va_iald hx hb hK hP 1 0 rfl rfl hi_3 d_Items_setBarred_21 ?_
    refine lv_iconst (v := 1) hx hb d_Items_setBarred_22 (by decide) ?_
    refine lv_iload_n hx hb d_Items_setBarred_23 rfl (lv_at hl 3 rfl) ?_
    refine lv_ishl hx hb d_Items_setBarred_24 ?_
    refine lv_ior hx hb d_Items_setBarred_25 ?_
    obtain ⟨hi_4, hf⟩ := q_ck hf
    refine va_iast hx hb hK hP hD hS 1 0 rfl rfl hi_4 d_Items_setBarred_26 (fun H locs hP hD hS => ?_)
    replace hP : va_P D vwCl [(ad 5, .inr (2, [.ref (ad 6), .ref (ad 7), .ref (ad 8), .ref (ad 9), .ref (ad 10), .ref (ad 11), .ref (ad 12), .int v_items_mustSet, .int v_items_count])), (ad 8, .inl (ki 0, n_ibar, .inl (upd v_ibar (Int32.toNatClampNeg p1) ((v_ibar (Int32.toNatClampNeg p1)) ||| (1 <<< (p2 &&& 31))))))] H := hP
    replace hD : va_D A [(ad 5, .inr (2, [.ref (ad 6), .ref (ad 7), .ref (ad 8), .ref (ad 9), .ref (ad 10), .ref (ad 11), .ref (ad 12), .int v_items_mustSet, .int v_items_count])), (ad 8, .inl (ki 0, n_ibar, .inl (upd v_ibar (Int32.toNatClampNeg p1) ((v_ibar (Int32.toNatClampNeg p1)) ||| (1 <<< (p2 &&& 31))))))] := hD
    refine lv_aload_n hx hb d_Items_setBarred_27 rfl (lv_at hl 1 rfl) ?_
    refine va_get (D := D) (ci := 2) (v := .ref (ad 8)) (C := R_Items) (T := F_Items) (N := 9) hx hb hts hn_Items hown hK hP 0 rfl rfl 2 (by decide) hL18 (fun _ h9 => h9) rfl d_Items_setBarred_28 ?_
    refine lv_iload_n hx hb d_Items_setBarred_31 rfl (lv_at hl 3 rfl) ?_
    refine lv_dup2_11 hx hb d_Items_setBarred_32 rfl rfl ?_
    obtain ⟨hi_5, hf⟩ := q_ck hf
    refine va_iald hx hb hK hP 1 0 rfl rfl hi_5 d_Items_setBarred_33 ?_
    refine lv_iconst (v := 1) hx hb d_Items_setBarred_34 (by decide) ?_
    refine lv_iload_n hx hb d_Items_setBarred_35 rfl (lv_at hl 2 rfl) ?_
    refine lv_ishl hx hb d_Items_setBarred_36 ?_
    refine lv_ior hx hb d_Items_setBarred_37 ?_
    obtain ⟨hi_6, hf⟩ := q_ck hf
    refine va_iast hx hb hK hP hD hS 1 0 rfl rfl hi_6 d_Items_setBarred_38 (fun H locs hP hD hS => ?_)
    replace hP : va_P D vwCl [(ad 5, .inr (2, [.ref (ad 6), .ref (ad 7), .ref (ad 8), .ref (ad 9), .ref (ad 10), .ref (ad 11), .ref (ad 12), .int v_items_mustSet, .int v_items_count])), (ad 8, .inl (ki 0, n_ibar, .inl (upd (upd v_ibar (Int32.toNatClampNeg p1) ((v_ibar (Int32.toNatClampNeg p1)) ||| (1 <<< (p2 &&& 31)))) (Int32.toNatClampNeg p2) (((upd v_ibar (Int32.toNatClampNeg p1) ((v_ibar (Int32.toNatClampNeg p1)) ||| (1 <<< (p2 &&& 31)))) (Int32.toNatClampNeg p2)) ||| (1 <<< (p1 &&& 31))))))] H := hP
    replace hD : va_D A [(ad 5, .inr (2, [.ref (ad 6), .ref (ad 7), .ref (ad 8), .ref (ad 9), .ref (ad 10), .ref (ad 11), .ref (ad 12), .int v_items_mustSet, .int v_items_count])), (ad 8, .inl (ki 0, n_ibar, .inl (upd (upd v_ibar (Int32.toNatClampNeg p1) ((v_ibar (Int32.toNatClampNeg p1)) ||| (1 <<< (p2 &&& 31)))) (Int32.toNatClampNeg p2) (((upd v_ibar (Int32.toNatClampNeg p1) ((v_ibar (Int32.toNatClampNeg p1)) ||| (1 <<< (p2 &&& 31)))) (Int32.toNatClampNeg p2)) ||| (1 <<< (p1 &&& 31))))))] := hD
    refine lv_iload_n hx hb d_Items_setBarred_39 rfl (lv_at hl 0 rfl) ?_
    cases hf
    exact W.zret (v := bI false) hx hb hr (bI_nar _) (fun t ht hW => ⟨rfl, by rw [ht]; exact hP, hS.F ht⟩) hS.2.2 d_Items_setBarred_40
  replace hf := q_ie hf c_2
  refine lv_iconst (v := 1) hx hb d_Items_setBarred_9 (by decide) ?_
  refine lv_goto (tgt := 14) hx hb d_Items_setBarred_10 (by decide) ?_
  refine lv_istore_n (lv' := [(3, .int (bI true)), (0, .ref (ad 5)), (1, .int p1), (2, .int p2)]) hx hb d_Items_setBarred_14 rfl hl (by decide) rfl (fun ls hl => ?_)
  refine lv_aload_n hx hb d_Items_setBarred_15 rfl (lv_at hl 1 rfl) ?_
  refine va_get (D := D) (ci := 2) (v := .ref (ad 8)) (C := R_Items) (T := F_Items) (N := 9) hx hb hts hn_Items hown hK hP 0 rfl rfl 2 (by decide) hL18 (fun _ h9 => h9) rfl d_Items_setBarred_16 ?_
  refine lv_iload_n hx hb d_Items_setBarred_19 rfl (lv_at hl 2 rfl) ?_
  refine lv_dup2_11 hx hb d_Items_setBarred_20 rfl rfl ?_
  obtain ⟨hi_7, hf⟩ := q_ck hf
  refine va_iald hx hb hK hP 1 0 rfl rfl hi_7 d_Items_setBarred_21 ?_
  refine lv_iconst (v := 1) hx hb d_Items_setBarred_22 (by decide) ?_
  refine lv_iload_n hx hb d_Items_setBarred_23 rfl (lv_at hl 3 rfl) ?_
  refine lv_ishl hx hb d_Items_setBarred_24 ?_
  refine lv_ior hx hb d_Items_setBarred_25 ?_
  obtain ⟨hi_8, hf⟩ := q_ck hf
  refine va_iast hx hb hK hP hD hS 1 0 rfl rfl hi_8 d_Items_setBarred_26 (fun H locs hP hD hS => ?_)
  replace hP : va_P D vwCl [(ad 5, .inr (2, [.ref (ad 6), .ref (ad 7), .ref (ad 8), .ref (ad 9), .ref (ad 10), .ref (ad 11), .ref (ad 12), .int v_items_mustSet, .int v_items_count])), (ad 8, .inl (ki 0, n_ibar, .inl (upd v_ibar (Int32.toNatClampNeg p1) ((v_ibar (Int32.toNatClampNeg p1)) ||| (1 <<< (p2 &&& 31))))))] H := hP
  replace hD : va_D A [(ad 5, .inr (2, [.ref (ad 6), .ref (ad 7), .ref (ad 8), .ref (ad 9), .ref (ad 10), .ref (ad 11), .ref (ad 12), .int v_items_mustSet, .int v_items_count])), (ad 8, .inl (ki 0, n_ibar, .inl (upd v_ibar (Int32.toNatClampNeg p1) ((v_ibar (Int32.toNatClampNeg p1)) ||| (1 <<< (p2 &&& 31))))))] := hD
  refine lv_aload_n hx hb d_Items_setBarred_27 rfl (lv_at hl 1 rfl) ?_
  refine va_get (D := D) (ci := 2) (v := .ref (ad 8)) (C := R_Items) (T := F_Items) (N := 9) hx hb hts hn_Items hown hK hP 0 rfl rfl 2 (by decide) hL18 (fun _ h9 => h9) rfl d_Items_setBarred_28 ?_
  refine lv_iload_n hx hb d_Items_setBarred_31 rfl (lv_at hl 3 rfl) ?_
  refine lv_dup2_11 hx hb d_Items_setBarred_32 rfl rfl ?_
  obtain ⟨hi_9, hf⟩ := q_ck hf
  refine va_iald hx hb hK hP 1 0 rfl rfl hi_9 d_Items_setBarred_33 ?_
  refine lv_iconst (v := 1) hx hb d_Items_setBarred_34 (by decide) ?_
  refine lv_iload_n hx hb d_Items_setBarred_35 rfl (lv_at hl 2 rfl) ?_
  refine lv_ishl hx hb d_Items_setBarred_36 ?_
  refine lv_ior hx hb d_Items_setBarred_37 ?_
  obtain ⟨hi_10, hf⟩ := q_ck hf
  refine va_iast hx hb hK hP hD hS 1 0 rfl rfl hi_10 d_Items_setBarred_38 (fun H locs hP hD hS => ?_)
  replace hP : va_P D vwCl [(ad 5, .inr (2, [.ref (ad 6), .ref (ad 7), .ref (ad 8), .ref (ad 9), .ref (ad 10), .ref (ad 11), .ref (ad 12), .int v_items_mustSet, .int v_items_count])), (ad 8, .inl (ki 0, n_ibar, .inl (upd (upd v_ibar (Int32.toNatClampNeg p1) ((v_ibar (Int32.toNatClampNeg p1)) ||| (1 <<< (p2 &&& 31)))) (Int32.toNatClampNeg p2) (((upd v_ibar (Int32.toNatClampNeg p1) ((v_ibar (Int32.toNatClampNeg p1)) ||| (1 <<< (p2 &&& 31)))) (Int32.toNatClampNeg p2)) ||| (1 <<< (p1 &&& 31))))))] H := hP
  replace hD : va_D A [(ad 5, .inr (2, [.ref (ad 6), .ref (ad 7), .ref (ad 8), .ref (ad 9), .ref (ad 10), .ref (ad 11), .ref (ad 12), .int v_items_mustSet, .int v_items_count])), (ad 8, .inl (ki 0, n_ibar, .inl (upd (upd v_ibar (Int32.toNatClampNeg p1) ((v_ibar (Int32.toNatClampNeg p1)) ||| (1 <<< (p2 &&& 31)))) (Int32.toNatClampNeg p2) (((upd v_ibar (Int32.toNatClampNeg p1) ((v_ibar (Int32.toNatClampNeg p1)) ||| (1 <<< (p2 &&& 31)))) (Int32.toNatClampNeg p2)) ||| (1 <<< (p1 &&& 31))))))] := hD
  refine lv_iload_n hx hb d_Items_setBarred_39 rfl (lv_at hl 0 rfl) ?_
  cases hf
  exact W.zret (v := bI true) hx hb hr (bI_nar _) (fun t ht hW => ⟨rfl, by rw [ht]; exact hP, hS.F ht⟩) hS.2.2 d_Items_setBarred_40
def f_Items_setMust (N : Nat) (v_items_mustSet : Int32) (v_items_count : Int32) (p1 : Int32) (p2 : Bool) : Option (Bool × Int32) := (if p2 = true then (if (v_items_mustSet ||| (1 <<< (p1 &&& 31))) = v_items_mustSet then (some (false, (v_items_mustSet ||| (1 <<< (p1 &&& 31))))) else (some (true, (v_items_mustSet ||| (1 <<< (p1 &&& 31)))))) else (if (v_items_mustSet &&& ((1 <<< (p1 &&& 31)) ^^^ (-1))) = v_items_mustSet then (some (false, (v_items_mustSet &&& ((1 <<< (p1 &&& 31)) ^^^ (-1))))) else (some (true, (v_items_mustSet &&& ((1 <<< (p1 &&& 31)) ^^^ (-1)))))))
set_option maxRecDepth 100000 in
set_option maxHeartbeats 4000000 in
theorem c_Items_setMust (l : Launch) (D : va_G) (ad : Nat → Nat) (ki : Nat → ClassId) (v_items_mustSet : Int32) (v_items_count : Int32) (p1 : Int32) (p2 : Bool) (N : Nat) (sz : Nat) (r : Bool) (ov_items_mustSet : Int32) (hf : f_Items_setMust N v_items_mustSet v_items_count p1 p2 = some (r, ov_items_mustSet)) : Met l y_Items_setMust w_Items_setMust { frames := 0, cells := 0, slots := 0, locals := 0 } (q_PcM [.ref (ad 5), .int p1, .int (bI p2)] D vwCl [(ad 5, .inr (2, [.ref (ad 6), .ref (ad 7), .ref (ad 8), .ref (ad 9), .ref (ad 10), .ref (ad 11), .ref (ad 12), .int v_items_mustSet, .int v_items_count]))] (TYS ki) sz) (q_Qm (some (.int (bI r))) D vwCl [(ad 5, .inr (2, [.ref (ad 6), .ref (ad 7), .ref (ad 8), .ref (ad 9), .ref (ad 10), .ref (ad 11), .ref (ad 12), .int ov_items_mustSet, .int v_items_count]))] (va_A [(ad 5, .inr (2, [.ref (ad 6), .ref (ad 7), .ref (ad 8), .ref (ad 9), .ref (ad 10), .ref (ad 11), .ref (ad 12), .int v_items_mustSet, .int v_items_count]))] sz)) 0 0 (va_A [(ad 5, .inr (2, [.ref (ad 6), .ref (ad 7), .ref (ad 8), .ref (ad 9), .ref (ad 10), .ref (ad 11), .ref (ad 12), .int v_items_mustSet, .int v_items_count]))] sz) := by
  refine Met.ofW (cc := b_Items_setMust) (maxL := 5) (ret := (some .boolean)) (by decide) rfl ?_
  intro p e s m args below meth c s₁ B hml hv
  obtain ⟨rfl, hsz, hP, hK, hD0, hE⟩ := hv
  have hx := B.exec
  have hb := B.bytes
  have hr := B.returns
  have hts := atoms_spec (ws := w_Items_setMust) B.pre
  have hown : s.vm.findClass R_Items = some m.cls := findClass_of_methodNamed B.named
  have hlocks := B.notSynchronized
  have hn_Items : ∀ w ∈ u_ws R_Items F_Items 9, w ∈ w_Items_setMust := (fun w h => List.mem_cons_of_mem _ (i_Items w h))
  have hL34 := hts (.fieldLink R_Items 34 "RoomFills$Items" "mustSet" "I") (List.mem_cons_of_mem _ m_135)
  subst hsz
  have hD := hD0.self (sz := s.heap.size)
  generalize hAe : va_A [(ad 5, .inr (2, [.ref (ad 6), .ref (ad 7), .ref (ad 8), .ref (ad 9), .ref (ad 10), .ref (ad 11), .ref (ad 12), .int v_items_mustSet, .int v_items_count]))] s.heap.size = A at hD ⊢
  have hA : ∀ q : Nat, s.heap.size ≤ q → A q := fun q h => by rw [← hAe]; exact Or.inr h
  have hS : va_S A s.heap s.heap [] := va_S.rf
  replace hP : va_P D vwCl [(ad 5, .inr (2, [.ref (ad 6), .ref (ad 7), .ref (ad 8), .ref (ad 9), .ref (ad 10), .ref (ad 11), .ref (ad 12), .int v_items_mustSet, .int v_items_count]))] s.heap := hP
  have hl := lv_entry ([.ref (ad 5), .int p1, .int (bI p2)]) (n := 5) (Nat.le_of_ble_eq_true rfl)
  rw [lg_entry_eq]
  generalize (lg_sl ([.ref (ad 5), .int p1, .int (bI p2)]) ++ List.replicate (5 - (lg_sl ([.ref (ad 5), .int p1, .int (bI p2)])).length) Slot.unset).toArray = ls at hl ⊢
  replace hl : lv_has ls 5 [(0, .ref (ad 5)), (1, .int p1), (2, .int (bI p2))] := hl
  unfold f_Items_setMust at hf
  refine lv_iload_n hx hb d_Items_setMust_0 rfl (lv_at hl 2 rfl) ?_
  refine zv_eq (tgt := 15) hx hb d_Items_setMust_1 (by decide) (fun c_1 => ?_) (fun c_1 => ?_)
  · replace hf := q_ie hf c_1
    refine lv_aload_n hx hb d_Items_setMust_15 rfl (lv_at hl 0 rfl) ?_
    refine va_get (D := D) (ci := 2) (v := .int v_items_mustSet) (C := R_Items) (T := F_Items) (N := 9) hx hb hts hn_Items hown hK hP 0 rfl rfl 7 (by decide) hL34 (fun _ h9 => h9) rfl d_Items_setMust_16 ?_
    refine lv_iconst (v := 1) hx hb d_Items_setMust_19 (by decide) ?_
    refine lv_iload_n hx hb d_Items_setMust_20 rfl (lv_at hl 1 rfl) ?_
    refine lv_ishl hx hb d_Items_setMust_21 ?_
    refine lv_iconst (v := (-1)) hx hb d_Items_setMust_22 (by decide) ?_
    refine lv_ixor hx hb d_Items_setMust_23 ?_
    refine lv_iand hx hb d_Items_setMust_24 ?_
    refine lv_istore_n (lv' := [(3, .int (v_items_mustSet &&& ((1 <<< (p1 &&& 31)) ^^^ (-1)))), (0, .ref (ad 5)), (1, .int p1), (2, .int (bI p2))]) hx hb d_Items_setMust_25 rfl hl (by decide) rfl (fun ls hl => ?_)
    refine lv_iload_n hx hb d_Items_setMust_26 rfl (lv_at hl 0 rfl) ?_
    refine lv_aload_n hx hb d_Items_setMust_27 rfl (lv_at hl 1 rfl) ?_
    refine va_get (D := D) (ci := 2) (v := .int v_items_mustSet) (C := R_Items) (T := F_Items) (N := 9) hx hb hts hn_Items hown hK hP 0 rfl rfl 7 (by decide) hL34 (fun _ h9 => h9) rfl d_Items_setMust_28 ?_
    refine lv_icmp_eq (tgt := 38) hx hb d_Items_setMust_31 (by decide) (fun c_2 => ?_) (fun c_2 => ?_)
    · replace hf := q_it hf c_2
      refine lv_iconst (v := 0) hx hb d_Items_setMust_38 (by decide) ?_
      refine lv_istore (lv' := [(4, .int (bI false)), (3, .int (v_items_mustSet &&& ((1 <<< (p1 &&& 31)) ^^^ (-1)))), (0, .ref (ad 5)), (1, .int p1), (2, .int (bI p2))]) hx hb d_Items_setMust_39 hl (by decide) rfl (fun ls hl => ?_)
      refine lv_aload_n hx hb d_Items_setMust_41 rfl (lv_at hl 2 rfl) ?_
      refine lv_iload_n hx hb d_Items_setMust_42 rfl (lv_at hl 1 rfl) ?_
      refine va_put (D := D) (ci := 2) (v := .int (v_items_mustSet &&& ((1 <<< (p1 &&& 31)) ^^^ (-1)))) (ty := .int) (C := R_Items) (T := F_Items) (N := 9) hx hb hts hn_Items t_Items t_Items_ok n_Items hown hK hP hD hS 0 rfl rfl 7 (by decide) hL34 (fun _ h9 => h9) rfl (by decide +kernel) rfl rfl (Nat.le_of_ble_eq_true rfl) d_Items_setMust_43 (fun H locs hP hD hS => ?_)
      replace hP : va_P D vwCl [(ad 5, .inr (2, [.ref (ad 6), .ref (ad 7), .ref (ad 8), .ref (ad 9), .ref (ad 10), .ref (ad 11), .ref (ad 12), .int (v_items_mustSet &&& ((1 <<< (p1 &&& 31)) ^^^ (-1))), .int v_items_count]))] H := hP
      replace hD : va_D A [(ad 5, .inr (2, [.ref (ad 6), .ref (ad 7), .ref (ad 8), .ref (ad 9), .ref (ad 10), .ref (ad 11), .ref (ad 12), .int (v_items_mustSet &&& ((1 <<< (p1 &&& 31)) ^^^ (-1))), .int v_items_count]))] := hD
      refine lv_iload hx hb d_Items_setMust_46 (lv_at hl 0 rfl) ?_
      cases hf
      exact W.zret (v := bI false) hx hb hr (bI_nar _) (fun t ht hW => ⟨rfl, by rw [ht]; exact hP, hS.F ht⟩) hS.2.2 d_Items_setMust_48
    replace hf := q_ie hf c_2
    refine lv_iconst (v := 1) hx hb d_Items_setMust_34 (by decide) ?_
    refine lv_goto (tgt := 39) hx hb d_Items_setMust_35 (by decide) ?_
    refine lv_istore (lv' := [(4, .int (bI true)), (3, .int (v_items_mustSet &&& ((1 <<< (p1 &&& 31)) ^^^ (-1)))), (0, .ref (ad 5)), (1, .int p1), (2, .int (bI p2))]) hx hb d_Items_setMust_39 hl (by decide) rfl (fun ls hl => ?_)
    refine lv_aload_n hx hb d_Items_setMust_41 rfl (lv_at hl 2 rfl) ?_
    refine lv_iload_n hx hb d_Items_setMust_42 rfl (lv_at hl 1 rfl) ?_
    refine va_put (D := D) (ci := 2) (v := .int (v_items_mustSet &&& ((1 <<< (p1 &&& 31)) ^^^ (-1)))) (ty := .int) (C := R_Items) (T := F_Items) (N := 9) hx hb hts hn_Items t_Items t_Items_ok n_Items hown hK hP hD hS 0 rfl rfl 7 (by decide) hL34 (fun _ h9 => h9) rfl (by decide +kernel) rfl rfl (Nat.le_of_ble_eq_true rfl) d_Items_setMust_43 (fun H locs hP hD hS => ?_)
    replace hP : va_P D vwCl [(ad 5, .inr (2, [.ref (ad 6), .ref (ad 7), .ref (ad 8), .ref (ad 9), .ref (ad 10), .ref (ad 11), .ref (ad 12), .int (v_items_mustSet &&& ((1 <<< (p1 &&& 31)) ^^^ (-1))), .int v_items_count]))] H := hP
    replace hD : va_D A [(ad 5, .inr (2, [.ref (ad 6), .ref (ad 7), .ref (ad 8), .ref (ad 9), .ref (ad 10), .ref (ad 11), .ref (ad 12), .int (v_items_mustSet &&& ((1 <<< (p1 &&& 31)) ^^^ (-1))), .int v_items_count]))] := hD
    refine lv_iload hx hb d_Items_setMust_46 (lv_at hl 0 rfl) ?_
    cases hf
    exact W.zret (v := bI true) hx hb hr (bI_nar _) (fun t ht hW => ⟨rfl, by rw [ht]; exact hP, hS.F ht⟩) hS.2.2 d_Items_setMust_48
  replace hf := q_it hf c_1
  refine lv_aload_n hx hb d_Items_setMust_4 rfl (lv_at hl 0 rfl) ?_
  refine va_get (D := D) (ci := 2) (v := .int v_items_mustSet) (C := R_Items) (T := F_Items) (N := 9) hx hb hts hn_Items hown hK hP 0 rfl rfl 7 (by decide) hL34 (fun _ h9 => h9) rfl d_Items_setMust_5 ?_
  refine lv_iconst (v := 1) hx hb d_Items_setMust_8 (by decide) ?_
  refine lv_iload_n hx hb d_Items_setMust_9 rfl (lv_at hl 1 rfl) ?_
  refine lv_ishl hx hb d_Items_setMust_10 ?_
  refine lv_ior hx hb d_Items_setMust_11 ?_
  refine lv_goto (tgt := 25) hx hb d_Items_setMust_12 (by decide) ?_
  refine lv_istore_n (lv' := [(3, .int (v_items_mustSet ||| (1 <<< (p1 &&& 31)))), (0, .ref (ad 5)), (1, .int p1), (2, .int (bI p2))]) hx hb d_Items_setMust_25 rfl hl (by decide) rfl (fun ls hl => ?_)
  refine lv_iload_n hx hb d_Items_setMust_26 rfl (lv_at hl 0 rfl) ?_
  refine lv_aload_n hx hb d_Items_setMust_27 rfl (lv_at hl 1 rfl) ?_
  refine va_get (D := D) (ci := 2) (v := .int v_items_mustSet) (C := R_Items) (T := F_Items) (N := 9) hx hb hts hn_Items hown hK hP 0 rfl rfl 7 (by decide) hL34 (fun _ h9 => h9) rfl d_Items_setMust_28 ?_
  refine lv_icmp_eq (tgt := 38) hx hb d_Items_setMust_31 (by decide) (fun c_3 => ?_) (fun c_3 => ?_)
  · replace hf := q_it hf c_3
    refine lv_iconst (v := 0) hx hb d_Items_setMust_38 (by decide) ?_
    refine lv_istore (lv' := [(4, .int (bI false)), (3, .int (v_items_mustSet ||| (1 <<< (p1 &&& 31)))), (0, .ref (ad 5)), (1, .int p1), (2, .int (bI p2))]) hx hb d_Items_setMust_39 hl (by decide) rfl (fun ls hl => ?_)
    refine lv_aload_n hx hb d_Items_setMust_41 rfl (lv_at hl 2 rfl) ?_
    refine lv_iload_n hx hb d_Items_setMust_42 rfl (lv_at hl 1 rfl) ?_
    refine va_put (D := D) (ci := 2) (v := .int (v_items_mustSet ||| (1 <<< (p1 &&& 31)))) (ty := .int) (C := R_Items) (T := F_Items) (N := 9) hx hb hts hn_Items t_Items t_Items_ok n_Items hown hK hP hD hS 0 rfl rfl 7 (by decide) hL34 (fun _ h9 => h9) rfl (by decide +kernel) rfl rfl (Nat.le_of_ble_eq_true rfl) d_Items_setMust_43 (fun H locs hP hD hS => ?_)
    replace hP : va_P D vwCl [(ad 5, .inr (2, [.ref (ad 6), .ref (ad 7), .ref (ad 8), .ref (ad 9), .ref (ad 10), .ref (ad 11), .ref (ad 12), .int (v_items_mustSet ||| (1 <<< (p1 &&& 31))), .int v_items_count]))] H := hP
    replace hD : va_D A [(ad 5, .inr (2, [.ref (ad 6), .ref (ad 7), .ref (ad 8), .ref (ad 9), .ref (ad 10), .ref (ad 11), .ref (ad 12), .int (v_items_mustSet ||| (1 <<< (p1 &&& 31))), .int v_items_count]))] := hD
    refine lv_iload hx hb d_Items_setMust_46 (lv_at hl 0 rfl) ?_
    cases hf
    exact W.zret (v := bI false) hx hb hr (bI_nar _) (fun t ht hW => ⟨rfl, by rw [ht]; exact hP, hS.F ht⟩) hS.2.2 d_Items_setMust_48
  replace hf := q_ie hf c_3
  refine lv_iconst (v := 1) hx hb d_Items_setMust_34 (by decide) ?_
  refine lv_goto (tgt := 39) hx hb d_Items_setMust_35 (by decide) ?_
  refine lv_istore (lv' := [(4, .int (bI true)), (3, .int (v_items_mustSet ||| (1 <<< (p1 &&& 31)))), (0, .ref (ad 5)), (1, .int p1), (2, .int (bI p2))]) hx hb d_Items_setMust_39 hl (by decide) rfl (fun ls hl => ?_)
  refine lv_aload_n hx hb d_Items_setMust_41 rfl (lv_at hl 2 rfl) ?_
  refine lv_iload_n hx hb d_Items_setMust_42 rfl (lv_at hl 1 rfl) ?_
  refine va_put (D := D) (ci := 2) (v := .int (v_items_mustSet ||| (1 <<< (p1 &&& 31)))) (ty := .int) (C := R_Items) (T := F_Items) (N := 9) hx hb hts hn_Items t_Items t_Items_ok n_Items hown hK hP hD hS 0 rfl rfl 7 (by decide) hL34 (fun _ h9 => h9) rfl (by decide +kernel) rfl rfl (Nat.le_of_ble_eq_true rfl) d_Items_setMust_43 (fun H locs hP hD hS => ?_)
  replace hP : va_P D vwCl [(ad 5, .inr (2, [.ref (ad 6), .ref (ad 7), .ref (ad 8), .ref (ad 9), .ref (ad 10), .ref (ad 11), .ref (ad 12), .int (v_items_mustSet ||| (1 <<< (p1 &&& 31))), .int v_items_count]))] H := hP
  replace hD : va_D A [(ad 5, .inr (2, [.ref (ad 6), .ref (ad 7), .ref (ad 8), .ref (ad 9), .ref (ad 10), .ref (ad 11), .ref (ad 12), .int (v_items_mustSet ||| (1 <<< (p1 &&& 31))), .int v_items_count]))] := hD
  refine lv_iload hx hb d_Items_setMust_46 (lv_at hl 0 rfl) ?_
  cases hf
  exact W.zret (v := bI true) hx hb hr (bI_nar _) (fun t ht hW => ⟨rfl, by rw [ht]; exact hP, hS.F ht⟩) hS.2.2 d_Items_setMust_48
def f_Items_isNeedMet (N : Nat) (n_wpip : Nat) (n_iwid : Nat) (n_inee : Nat) (v_wall_steps : Int32) (v_wall_pipeCount : Int32) (v_wpip : Nat → Int32) (v_items_mustSet : Int32) (v_items_count : Int32) (v_iwid : Nat → Int32) (v_inee : Nat → Int32) (p1 : Int32) (p2 : Int32) : Option (Bool) := (if p1 < 0 ∨ n_inee ≤ Int32.toNatClampNeg p1 then none else (if (v_inee (Int32.toNatClampNeg p1)) = ((-1) : Int32) then (some true) else (if p1 < 0 ∨ n_iwid ≤ Int32.toNatClampNeg p1 then none else (if p1 < 0 ∨ n_inee ≤ Int32.toNatClampNeg p1 then none else (Option.bind (f_Wall_hasPipeWithin N n_wpip v_wall_steps v_wall_pipeCount v_wpip p2 (v_iwid (Int32.toNatClampNeg p1)) (v_inee (Int32.toNatClampNeg p1))) (fun r_5 => (if r_5 = true then (some true) else (some false))))))))
set_option maxRecDepth 100000 in
set_option maxHeartbeats 4000000 in
theorem c_Items_isNeedMet (l : Launch) (D : va_G) (ad : Nat → Nat) (ki : Nat → ClassId) (n_wpip : Nat) (n_iwid : Nat) (n_inee : Nat) (v_wall_steps : Int32) (v_wall_pipeCount : Int32) (v_wpip : Nat → Int32) (v_items_mustSet : Int32) (v_items_count : Int32) (v_iwid : Nat → Int32) (v_inee : Nat → Int32) (p1 : Int32) (p2 : Int32) (N : Nat) (r : Bool) (hf : f_Items_isNeedMet N n_wpip n_iwid n_inee v_wall_steps v_wall_pipeCount v_wpip v_items_mustSet v_items_count v_iwid v_inee p1 p2 = some r) : Met l y_Items_isNeedMet w_Items_isNeedMet { frames := 1, cells := 0, slots := 0, locals := 24 } (q_PcP [.ref (ad 5), .int p1, .int p2, .ref (ad 2)] D vwCl [(ad 2, .inr (1, [.int v_wall_steps, .ref (ad 3), .ref (ad 4), .int v_wall_pipeCount])), (ad 4, .inl (ki 0, n_wpip, .inl v_wpip)), (ad 5, .inr (2, [.ref (ad 6), .ref (ad 7), .ref (ad 8), .ref (ad 9), .ref (ad 10), .ref (ad 11), .ref (ad 12), .int v_items_mustSet, .int v_items_count])), (ad 6, .inl (ki 0, n_iwid, .inl v_iwid)), (ad 7, .inl (ki 0, n_inee, .inl v_inee))] (TYS ki)) (k2_QcV (.int (bI r))) 0 0 (fun _ => False) := by
  refine Met.ofW (cc := b_Items_isNeedMet) (maxL := 4) (ret := (some .boolean)) (by decide) rfl ?_
  intro p e s m args below meth c s₁ B hml hv
  obtain ⟨rfl, hP, hK, hE⟩ := hv
  have hx := B.exec
  have hb := B.bytes
  have hr := B.returns
  have hts := atoms_spec (ws := w_Items_isNeedMet) B.pre
  have hown : s.vm.findClass R_Items = some m.cls := findClass_of_methodNamed B.named
  have hlocks := B.notSynchronized
  have hn_Items : ∀ w ∈ u_ws R_Items F_Items 9, w ∈ w_Items_isNeedMet := (fun w h => List.mem_cons_of_mem _ (i_Items w h))
  have hL9 := hts (.fieldLink R_Items 9 "RoomFills$Items" "width" "[I") (List.mem_cons_of_mem _ m_119)
  have hL15 := hts (.fieldLink R_Items 15 "RoomFills$Items" "needMost" "[I") (List.mem_cons_of_mem _ m_123)
  replace hP : va_P D vwCl [(ad 2, .inr (1, [.int v_wall_steps, .ref (ad 3), .ref (ad 4), .int v_wall_pipeCount])), (ad 4, .inl (ki 0, n_wpip, .inl v_wpip)), (ad 5, .inr (2, [.ref (ad 6), .ref (ad 7), .ref (ad 8), .ref (ad 9), .ref (ad 10), .ref (ad 11), .ref (ad 12), .int v_items_mustSet, .int v_items_count])), (ad 6, .inl (ki 0, n_iwid, .inl v_iwid)), (ad 7, .inl (ki 0, n_inee, .inl v_inee))] s.heap := hP
  have hl := lv_entry ([.ref (ad 5), .int p1, .int p2, .ref (ad 2)]) (n := 4) (Nat.le_of_ble_eq_true rfl)
  rw [lg_entry_eq]
  generalize (lg_sl ([.ref (ad 5), .int p1, .int p2, .ref (ad 2)]) ++ List.replicate (4 - (lg_sl ([.ref (ad 5), .int p1, .int p2, .ref (ad 2)])).length) Slot.unset).toArray = ls at hl ⊢
  replace hl : lv_has ls 4 [(0, .ref (ad 5)), (1, .int p1), (2, .int p2), (3, .ref (ad 2))] := hl
  unfold f_Items_isNeedMet at hf
  refine lv_aload_n hx hb d_Items_isNeedMet_0 rfl (lv_at hl 0 rfl) ?_
  refine va_get (D := D) (ci := 2) (v := .ref (ad 7)) (C := R_Items) (T := F_Items) (N := 9) hx hb hts hn_Items hown hK hP 2 rfl rfl 1 (by decide) hL15 (fun _ h9 => h9) rfl d_Items_isNeedMet_1 ?_
  refine lv_iload_n hx hb d_Items_isNeedMet_4 rfl (lv_at hl 1 rfl) ?_
  obtain ⟨hi_1, hf⟩ := q_ck hf
  refine va_iald hx hb hK hP 4 0 rfl rfl hi_1 d_Items_isNeedMet_5 ?_
  refine lv_iconst (v := (-1)) hx hb d_Items_isNeedMet_6 (by decide) ?_
  refine lv_icmp_eq (tgt := 30) hx hb d_Items_isNeedMet_7 (by decide) (fun c_2 => ?_) (fun c_2 => ?_)
  · replace hf := q_it hf c_2
    refine lv_iconst (v := 1) hx hb d_Items_isNeedMet_30 (by decide) ?_
    refine lv_goto (tgt := 35) hx hb d_Items_isNeedMet_31 (by decide) ?_
    cases hf
    exact W.zret (v := bI true) hx hb hr (bI_nar _) (fun t ht hW => ⟨rfl, ht⟩) (fun q h => nomatch h) d_Items_isNeedMet_35
  replace hf := q_ie hf c_2
  refine lv_aload_n hx hb d_Items_isNeedMet_10 rfl (lv_at hl 3 rfl) ?_
  refine lv_iload_n hx hb d_Items_isNeedMet_11 rfl (lv_at hl 2 rfl) ?_
  refine lv_aload_n hx hb d_Items_isNeedMet_12 rfl (lv_at hl 0 rfl) ?_
  refine va_get (D := D) (ci := 2) (v := .ref (ad 6)) (C := R_Items) (T := F_Items) (N := 9) hx hb hts hn_Items hown hK hP 2 rfl rfl 0 (by decide) hL9 (fun _ h9 => h9) rfl d_Items_isNeedMet_13 ?_
  refine lv_iload_n hx hb d_Items_isNeedMet_16 rfl (lv_at hl 1 rfl) ?_
  obtain ⟨hi_3, hf⟩ := q_ck hf
  refine va_iald hx hb hK hP 3 0 rfl rfl hi_3 d_Items_isNeedMet_17 ?_
  refine lv_aload_n hx hb d_Items_isNeedMet_18 rfl (lv_at hl 0 rfl) ?_
  refine va_get (D := D) (ci := 2) (v := .ref (ad 7)) (C := R_Items) (T := F_Items) (N := 9) hx hb hts hn_Items hown hK hP 2 rfl rfl 1 (by decide) hL15 (fun _ h9 => h9) rfl d_Items_isNeedMet_19 ?_
  refine lv_iload_n hx hb d_Items_isNeedMet_22 rfl (lv_at hl 1 rfl) ?_
  obtain ⟨hi_4, hf⟩ := q_ck hf
  refine va_iald hx hb hK hP 4 0 rfl rfl hi_4 d_Items_isNeedMet_23 ?_
  obtain ⟨r_5, hc_5, hf⟩ := q_mb hf
  refine q_pcall (W.runV (As := [.int p2, .int (v_iwid (Int32.toNatClampNeg p1)), .int (v_inee (Int32.toNatClampNeg p1))]) (rest := []) ⟨hx, hb, hml, hown, hts⟩ (c_Wall_hasPipeWithin l D ad ki n_wpip v_wall_steps v_wall_pipeCount v_wpip p2 (v_iwid (Int32.toNatClampNeg p1)) (v_inee (Int32.toNatClampNeg p1)) N r_5 hc_5) (cwV 3 hts (q_goodV ⟨m_380, m_381, m_382, m_55⟩ m_383) rfl rfl rfl (by decide +kernel) ⟨Nat.le_of_ble_eq_true rfl, Nat.le_of_ble_eq_true rfl⟩) (q_preVP (wc := [(ad 2, .inr (1, [.int v_wall_steps, .ref (ad 3), .ref (ad 4), .int v_wall_pipeCount])), (ad 4, .inl (ki 0, n_wpip, .inl v_wpip))]) hE hK hP [0, 1] rfl 0 1 rfl rfl) rfl rfl hl.1 rfl (lv_room (Nat.le_of_ble_eq_true rfl)) d_Items_isNeedMet_24 ⟨Nat.le_of_ble_eq_true rfl, Nat.le_of_ble_eq_true rfl⟩) ?_
  refine zv_eq (tgt := 34) hx hb d_Items_isNeedMet_27 (by decide) (fun c_6 => ?_) (fun c_6 => ?_)
  · replace hf := q_ie hf c_6
    refine lv_iconst (v := 0) hx hb d_Items_isNeedMet_34 (by decide) ?_
    cases hf
    exact W.zret (v := bI false) hx hb hr (bI_nar _) (fun t ht hW => ⟨rfl, ht⟩) (fun q h => nomatch h) d_Items_isNeedMet_35
  replace hf := q_it hf c_6
  refine lv_iconst (v := 1) hx hb d_Items_isNeedMet_30 (by decide) ?_
  refine lv_goto (tgt := 35) hx hb d_Items_isNeedMet_31 (by decide) ?_
  cases hf
  exact W.zret (v := bI true) hx hb hr (bI_nar _) (fun t ht hW => ⟨rfl, ht⟩) (fun q h => nomatch h) d_Items_isNeedMet_35
