def f_Model_isNeeded_cut (N : Nat) (n_mpip : Nat) (n_mwid : Nat) (n_mnee : Nat) (v_mod_code : Int32) (v_mod_steps : Int32) (v_mod_pipes : Int32) (v_mod_items : Int32) (v_mod_least : Int32) (v_mod_most : Int32) (v_mod_hasPlan : Bool) (v_mod_told : Int32) (v_mod_pieces : Int32) (v_mod_planWorth : Int64) (v_mod_planCents : Int64) (v_mpip : Nat → Int32) (v_mwid : Nat → Int32) (v_mnee : Nat → Int32) : Nat → Nat → Int32 → Int32 → Bool → Int32 → Option (Bool)
  | 0, _, _, _, _, _ => none
  | n + 1, t, x1, x2, x3, x4 => (if v_mod_pipes ≤ x4 then (some x3) else (if x4 < 0 ∨ n_mpip ≤ Int32.toNatClampNeg x4 then none else (if x2 ≤ (v_mpip (Int32.toNatClampNeg x4)) then (if x1 < 0 ∨ n_mwid ≤ Int32.toNatClampNeg x1 then none else (if (v_mpip (Int32.toNatClampNeg x4)) < (x2 + (v_mwid (Int32.toNatClampNeg x1))) then (if x3 = true then (f_Model_isNeeded_cut N n_mpip n_mwid n_mnee v_mod_code v_mod_steps v_mod_pipes v_mod_items v_mod_least v_mod_most v_mod_hasPlan v_mod_told v_mod_pieces v_mod_planWorth v_mod_planCents v_mpip v_mwid v_mnee n 0 x1 x2 true (x4 + 1)) else (if x1 < 0 ∨ n_mnee ≤ Int32.toNatClampNeg x1 then none else (if (v_mnee (Int32.toNatClampNeg x1)) < (0 : Int32) then (f_Model_isNeeded_cut N n_mpip n_mwid n_mnee v_mod_code v_mod_steps v_mod_pipes v_mod_items v_mod_least v_mod_most v_mod_hasPlan v_mod_told v_mod_pieces v_mod_planWorth v_mod_planCents v_mpip v_mwid v_mnee n 0 x1 x2 false (x4 + 1)) else (f_Model_isNeeded_cut N n_mpip n_mwid n_mnee v_mod_code v_mod_steps v_mod_pipes v_mod_items v_mod_least v_mod_most v_mod_hasPlan v_mod_told v_mod_pieces v_mod_planWorth v_mod_planCents v_mpip v_mwid v_mnee n 0 x1 x2 true (x4 + 1))))) else (if x1 < 0 ∨ n_mwid ≤ Int32.toNatClampNeg x1 then none else (if x3 = true then (f_Model_isNeeded_cut N n_mpip n_mwid n_mnee v_mod_code v_mod_steps v_mod_pipes v_mod_items v_mod_least v_mod_most v_mod_hasPlan v_mod_told v_mod_pieces v_mod_planWorth v_mod_planCents v_mpip v_mwid v_mnee n 0 x1 x2 true (x4 + 1)) else (if x1 < 0 ∨ n_mnee ≤ Int32.toNatClampNeg x1 then none else (if (v_mnee (Int32.toNatClampNeg x1)) < ((((v_mpip (Int32.toNatClampNeg x4)) - x2) - (v_mwid (Int32.toNatClampNeg x1))) + 1) then (f_Model_isNeeded_cut N n_mpip n_mwid n_mnee v_mod_code v_mod_steps v_mod_pipes v_mod_items v_mod_least v_mod_most v_mod_hasPlan v_mod_told v_mod_pieces v_mod_planWorth v_mod_planCents v_mpip v_mwid v_mnee n 0 x1 x2 false (x4 + 1)) else (f_Model_isNeeded_cut N n_mpip n_mwid n_mnee v_mod_code v_mod_steps v_mod_pipes v_mod_items v_mod_least v_mod_most v_mod_hasPlan v_mod_told v_mod_pieces v_mod_planWorth v_mod_planCents v_mpip v_mwid v_mnee n 0 x1 x2 true (x4 + 1)))))))) else (if x3 = true then (f_Model_isNeeded_cut N n_mpip n_mwid n_mnee v_mod_code v_mod_steps v_mod_pipes v_mod_items v_mod_least v_mod_most v_mod_hasPlan v_mod_told v_mod_pieces v_mod_planWorth v_mod_planCents v_mpip v_mwid v_mnee n 0 x1 x2 true (x4 + 1)) else (if x1 < 0 ∨ n_mnee ≤ Int32.toNatClampNeg x1 then none else (if (v_mnee (Int32.toNatClampNeg x1)) < (x2 - (v_mpip (Int32.toNatClampNeg x4))) then (f_Model_isNeeded_cut N n_mpip n_mwid n_mnee v_mod_code v_mod_steps v_mod_pipes v_mod_items v_mod_least v_mod_most v_mod_hasPlan v_mod_told v_mod_pieces v_mod_planWorth v_mod_planCents v_mpip v_mwid v_mnee n 0 x1 x2 false (x4 + 1)) else (f_Model_isNeeded_cut N n_mpip n_mwid n_mnee v_mod_code v_mod_steps v_mod_pipes v_mod_items v_mod_least v_mod_most v_mod_hasPlan v_mod_told v_mod_pieces v_mod_planWorth v_mod_planCents v_mpip v_mwid v_mnee n 0 x1 x2 true (x4 + 1))))))))
theorem f_Model_isNeeded_cut_0 (N : Nat) (n_mpip : Nat) (n_mwid : Nat) (n_mnee : Nat) (v_mod_code : Int32) (v_mod_steps : Int32) (v_mod_pipes : Int32) (v_mod_items : Int32) (v_mod_least : Int32) (v_mod_most : Int32) (v_mod_hasPlan : Bool) (v_mod_told : Int32) (v_mod_pieces : Int32) (v_mod_planWorth : Int64) (v_mod_planCents : Int64) (v_mpip : Nat → Int32) (v_mwid : Nat → Int32) (v_mnee : Nat → Int32) (n : Nat) (x1 : Int32) (x2 : Int32) (x3 : Bool) (x4 : Int32) : f_Model_isNeeded_cut N n_mpip n_mwid n_mnee v_mod_code v_mod_steps v_mod_pipes v_mod_items v_mod_least v_mod_most v_mod_hasPlan v_mod_told v_mod_pieces v_mod_planWorth v_mod_planCents v_mpip v_mwid v_mnee (n + 1) 0 x1 x2 x3 x4 = (if v_mod_pipes ≤ x4 then (some x3) else (if x4 < 0 ∨ n_mpip ≤ Int32.toNatClampNeg x4 then none else (if x2 ≤ (v_mpip (Int32.toNatClampNeg x4)) then (if x1 < 0 ∨ n_mwid ≤ Int32.toNatClampNeg x1 then none else (if (v_mpip (Int32.toNatClampNeg x4)) < (x2 + (v_mwid (Int32.toNatClampNeg x1))) then (if x3 = true then (f_Model_isNeeded_cut N n_mpip n_mwid n_mnee v_mod_code v_mod_steps v_mod_pipes v_mod_items v_mod_least v_mod_most v_mod_hasPlan v_mod_told v_mod_pieces v_mod_planWorth v_mod_planCents v_mpip v_mwid v_mnee n 0 x1 x2 true (x4 + 1)) else (if x1 < 0 ∨ n_mnee ≤ Int32.toNatClampNeg x1 then none else (if (v_mnee (Int32.toNatClampNeg x1)) < (0 : Int32) then (f_Model_isNeeded_cut N n_mpip n_mwid n_mnee v_mod_code v_mod_steps v_mod_pipes v_mod_items v_mod_least v_mod_most v_mod_hasPlan v_mod_told v_mod_pieces v_mod_planWorth v_mod_planCents v_mpip v_mwid v_mnee n 0 x1 x2 false (x4 + 1)) else (f_Model_isNeeded_cut N n_mpip n_mwid n_mnee v_mod_code v_mod_steps v_mod_pipes v_mod_items v_mod_least v_mod_most v_mod_hasPlan v_mod_told v_mod_pieces v_mod_planWorth v_mod_planCents v_mpip v_mwid v_mnee n 0 x1 x2 true (x4 + 1))))) else (if x1 < 0 ∨ n_mwid ≤ Int32.toNatClampNeg x1 then none else (if x3 = true then (f_Model_isNeeded_cut N n_mpip n_mwid n_mnee v_mod_code v_mod_steps v_mod_pipes v_mod_items v_mod_least v_mod_most v_mod_hasPlan v_mod_told v_mod_pieces v_mod_planWorth v_mod_planCents v_mpip v_mwid v_mnee n 0 x1 x2 true (x4 + 1)) else (if x1 < 0 ∨ n_mnee ≤ Int32.toNatClampNeg x1 then none else (if (v_mnee (Int32.toNatClampNeg x1)) < ((((v_mpip (Int32.toNatClampNeg x4)) - x2) - (v_mwid (Int32.toNatClampNeg x1))) + 1) then (f_Model_isNeeded_cut N n_mpip n_mwid n_mnee v_mod_code v_mod_steps v_mod_pipes v_mod_items v_mod_least v_mod_most v_mod_hasPlan v_mod_told v_mod_pieces v_mod_planWorth v_mod_planCents v_mpip v_mwid v_mnee n 0 x1 x2 false (x4 + 1)) else (f_Model_isNeeded_cut N n_mpip n_mwid n_mnee v_mod_code v_mod_steps v_mod_pipes v_mod_items v_mod_least v_mod_most v_mod_hasPlan v_mod_told v_mod_pieces v_mod_planWorth v_mod_planCents v_mpip v_mwid v_mnee n 0 x1 x2 true (x4 + 1)))))))) else (if x3 = true then (f_Model_isNeeded_cut N n_mpip n_mwid n_mnee v_mod_code v_mod_steps v_mod_pipes v_mod_items v_mod_least v_mod_most v_mod_hasPlan v_mod_told v_mod_pieces v_mod_planWorth v_mod_planCents v_mpip v_mwid v_mnee n 0 x1 x2 true (x4 + 1)) else (if x1 < 0 ∨ n_mnee ≤ Int32.toNatClampNeg x1 then none else (if (v_mnee (Int32.toNatClampNeg x1)) < (x2 - (v_mpip (Int32.toNatClampNeg x4))) then (f_Model_isNeeded_cut N n_mpip n_mwid n_mnee v_mod_code v_mod_steps v_mod_pipes v_mod_items v_mod_least v_mod_most v_mod_hasPlan v_mod_told v_mod_pieces v_mod_planWorth v_mod_planCents v_mpip v_mwid v_mnee n 0 x1 x2 false (x4 + 1)) else (f_Model_isNeeded_cut N n_mpip n_mwid n_mnee v_mod_code v_mod_steps v_mod_pipes v_mod_items v_mod_least v_mod_most v_mod_hasPlan v_mod_told v_mod_pieces v_mod_planWorth v_mod_planCents v_mpip v_mwid v_mnee n 0 x1 x2 true (x4 + 1)))))))) := rfl
def f_Model_isNeeded (N : Nat) (n_mpip : Nat) (n_mwid : Nat) (n_mnee : Nat) (v_mod_code : Int32) (v_mod_steps : Int32) (v_mod_pipes : Int32) (v_mod_items : Int32) (v_mod_least : Int32) (v_mod_most : Int32) (v_mod_hasPlan : Bool) (v_mod_told : Int32) (v_mod_pieces : Int32) (v_mod_planWorth : Int64) (v_mod_planCents : Int64) (v_mpip : Nat → Int32) (v_mwid : Nat → Int32) (v_mnee : Nat → Int32) (p1 : Int32) (p2 : Int32) : Option (Bool) := (if p1 < 0 ∨ n_mnee ≤ Int32.toNatClampNeg p1 then none else (if (v_mnee (Int32.toNatClampNeg p1)) = ((-1) : Int32) then (f_Model_isNeeded_cut N n_mpip n_mwid n_mnee v_mod_code v_mod_steps v_mod_pipes v_mod_items v_mod_least v_mod_most v_mod_hasPlan v_mod_told v_mod_pieces v_mod_planWorth v_mod_planCents v_mpip v_mwid v_mnee N 0 p1 p2 true 0) else (f_Model_isNeeded_cut N n_mpip n_mwid n_mnee v_mod_code v_mod_steps v_mod_pipes v_mod_items v_mod_least v_mod_most v_mod_hasPlan v_mod_told v_mod_pieces v_mod_planWorth v_mod_planCents v_mpip v_mwid v_mnee N 0 p1 p2 false 0)))
set_option maxRecDepth 100000 in
set_option maxHeartbeats 4000000 in
theorem c_Model_isNeeded (l : Launch) (D : va_G) (ad : Nat → Nat) (ki : Nat → ClassId) (n_mpip : Nat) (n_mwid : Nat) (n_mnee : Nat) (v_mod_code : Int32) (v_mod_steps : Int32) (v_mod_pipes : Int32) (v_mod_items : Int32) (v_mod_least : Int32) (v_mod_most : Int32) (v_mod_hasPlan : Bool) (v_mod_told : Int32) (v_mod_pieces : Int32) (v_mod_planWorth : Int64) (v_mod_planCents : Int64) (v_mpip : Nat → Int32) (v_mwid : Nat → Int32) (v_mnee : Nat → Int32) (p1 : Int32) (p2 : Int32) (N : Nat) (r : Bool) (hf : f_Model_isNeeded N n_mpip n_mwid n_mnee v_mod_code v_mod_steps v_mod_pipes v_mod_items v_mod_least v_mod_most v_mod_hasPlan v_mod_told v_mod_pieces v_mod_planWorth v_mod_planCents v_mpip v_mwid v_mnee p1 p2 = some r) : Met l y_Model_isNeeded w_Model_isNeeded { frames := 0, cells := 0, slots := 0, locals := 0 } (q_PcP [.ref (ad 29), .int p1, .int p2] D vwCl [(ad 29, .inr (8, [.int v_mod_code, .int v_mod_steps, .ref (ad 30), .int v_mod_pipes, .ref (ad 31), .int v_mod_items, .ref (ad 32), .ref (ad 33), .ref (ad 34), .ref (ad 35), .ref (ad 36), .ref (ad 37), .ref (ad 38), .int v_mod_least, .int v_mod_most, .ref (ad 39), .ref (ad 40), .ref (ad 41), .ref (ad 42), .ref (ad 43), .ref (ad 44), .int (bI v_mod_hasPlan), .int v_mod_told, .ref (ad 45), .int v_mod_pieces, .ref (ad 46), .ref (ad 47), .ref (ad 48), .long v_mod_planWorth, .long v_mod_planCents])), (ad 31, .inl (ki 0, n_mpip, .inl v_mpip)), (ad 32, .inl (ki 0, n_mwid, .inl v_mwid)), (ad 35, .inl (ki 0, n_mnee, .inl v_mnee))] (TYS ki)) (k2_QcV (.int (bI r))) 0 0 (fun _ => False) := by
  refine Met.ofW (cc := b_Model_isNeeded) (maxL := 7) (ret := (some .boolean)) (by decide) rfl ?_
  intro p e s m args below meth c s₁ B hml hv
  obtain ⟨rfl, hP, hK, hE⟩ := hv
  have hx := B.exec
  have hb := B.bytes
  have hr := B.returns
  have hts := atoms_spec (ws := w_Model_isNeeded) B.pre
  have hown : s.vm.findClass R_Model = some m.cls := findClass_of_methodNamed B.named
  have hlocks := B.notSynchronized
  have hn_Model : ∀ w ∈ u_ws R_Model F_Model 30, w ∈ w_Model_isNeeded := (fun w h => List.mem_cons_of_mem _ (i_Model w h))
  have hL13 := hts (.fieldLink R_Model 13 "RoomFillsModel" "pipeAt" "[I") (List.mem_cons_of_mem _ m_847)
  have hL17 := hts (.fieldLink R_Model 17 "RoomFillsModel" "widths" "[I") (List.mem_cons_of_mem _ m_849)
  have hL27 := hts (.fieldLink R_Model 27 "RoomFillsModel" "needs" "[I") (List.mem_cons_of_mem _ m_852)
  have hL86 := hts (.fieldLink R_Model 86 "RoomFillsModel" "pipes" "I") (List.mem_cons_of_mem _ m_846)
  replace hP : va_P D vwCl [(ad 29, .inr (8, [.int v_mod_code, .int v_mod_steps, .ref (ad 30), .int v_mod_pipes, .ref (ad 31), .int v_mod_items, .ref (ad 32), .ref (ad 33), .ref (ad 34), .ref (ad 35), .ref (ad 36), .ref (ad 37), .ref (ad 38), .int v_mod_least, .int v_mod_most, .ref (ad 39), .ref (ad 40), .ref (ad 41), .ref (ad 42), .ref (ad 43), .ref (ad 44), .int (bI v_mod_hasPlan), .int v_mod_told, .ref (ad 45), .int v_mod_pieces, .ref (ad 46), .ref (ad 47), .ref (ad 48), .long v_mod_planWorth, .long v_mod_planCents])), (ad 31, .inl (ki 0, n_mpip, .inl v_mpip)), (ad 32, .inl (ki 0, n_mwid, .inl v_mwid)), (ad 35, .inl (ki 0, n_mnee, .inl v_mnee))] s.heap := hP
  have hl := lv_entry ([.ref (ad 29), .int p1, .int p2]) (n := 7) (Nat.le_of_ble_eq_true rfl)
  rw [lg_entry_eq]
  generalize (lg_sl ([.ref (ad 29), .int p1, .int p2]) ++ List.replicate (7 - (lg_sl ([.ref (ad 29), .int p1, .int p2])).length) Slot.unset).toArray = ls at hl ⊢
  replace hl : lv_has ls 7 [(0, .ref (ad 29)), (1, .int p1), (2, .int p2)] := hl
  have key : ∀ n : Nat, (∀ (x1 : Int32) (x2 : Int32) (x3 : Bool) (x4 : Int32), f_Model_isNeeded_cut N n_mpip n_mwid n_mnee v_mod_code v_mod_steps v_mod_pipes v_mod_items v_mod_least v_mod_most v_mod_hasPlan v_mod_told v_mod_pieces v_mod_planWorth v_mod_planCents v_mpip v_mwid v_mnee n 0 x1 x2 x3 x4 = some r → ∀ (ls : Array Slot), lv_has ls 7 [(0, .ref (ad 29)), (1, .int x1), (2, .int x2), (3, .int (bI x3)), (4, .int x4)] → W p l e (headSpec w_Model_isNeeded { frames := 0, cells := 0, slots := 0, locals := 0 }).room s m ([.ref (ad 29), .int p1, .int p2] : List Value).toArray below meth c s.heap [] 0 0 (MQ below (k2_QcV (.int (bI r))) ([.ref (ad 29), .int p1, .int p2] : List Value).toArray s 0 0 (fun _ => False)) (F0 m 19 ls [])) := by
    intro n
    induction n with
    | zero =>
      exact fun x1 x2 x3 x4 hf => (nomatch (show none = some _ from hf))
    | succ n ih =>
      intro x1 x2 x3 x4 hf ls hl
      rw [f_Model_isNeeded_cut_0] at hf
      refine lv_iload hx hb d_Model_isNeeded_19 (lv_at hl 4 rfl) ?_
      refine lv_aload_n hx hb d_Model_isNeeded_21 rfl (lv_at hl 0 rfl) ?_
      refine va_get (D := D) (ci := 8) (v := .int v_mod_pipes) (C := R_Model) (T := F_Model) (N := 30) hx hb hts hn_Model hown hK hP 0 rfl rfl 3 (by decide) hL86 (fun _ h9 => h9) rfl d_Model_isNeeded_22 ?_
      refine lv_icmp_ge (tgt := 109) hx hb d_Model_isNeeded_25 (by decide) (fun c_1 => ?_) (fun c_1 => ?_)
      · replace hf := q_it hf c_1
        refine lv_iload_n hx hb d_Model_isNeeded_109 rfl (lv_at hl 3 rfl) ?_
        cases hf
        first | exact W.zret (v := bI x3) hx hb hr (bI_nar _) (fun t ht hW => ⟨rfl, ht⟩) (fun q h => nomatch h) d_Model_isNeeded_110 | exact W.zret (v := bI r) hx hb hr (bI_nar _) (fun t ht hW => ⟨rfl, ht⟩) (fun q h => nomatch h) d_Model_isNeeded_110
      replace hf := q_ie hf c_1
      refine lv_aload_n hx hb d_Model_isNeeded_28 rfl (lv_at hl 0 rfl) ?_
      refine va_get (D := D) (ci := 8) (v := .ref (ad 31)) (C := R_Model) (T := F_Model) (N := 30) hx hb hts hn_Model hown hK hP 0 rfl rfl 4 (by decide) hL13 (fun _ h9 => h9) rfl d_Model_isNeeded_29 ?_
      refine lv_iload hx hb d_Model_isNeeded_32 (lv_at hl 4 rfl) ?_
      obtain ⟨hi_2, hf⟩ := q_ck hf
      refine va_iald hx hb hK hP 1 0 rfl rfl hi_2 d_Model_isNeeded_34 ?_
      refine lv_istore (lv' := [(5, .int (v_mpip (Int32.toNatClampNeg x4))), (0, .ref (ad 29)), (1, .int x1), (2, .int x2), (3, .int (bI x3)), (4, .int x4)]) hx hb d_Model_isNeeded_35 hl (by decide) rfl (fun ls hl => ?_)
      refine lv_iload hx hb d_Model_isNeeded_37 (lv_at hl 0 rfl) ?_
      refine lv_iload_n hx hb d_Model_isNeeded_39 rfl (lv_at hl 3 rfl) ?_
      refine lv_icmp_ge (tgt := 50) hx hb d_Model_isNeeded_40 (by decide) (fun c_3 => ?_) (fun c_3 => ?_)
      · replace hf := q_it hf c_3
        refine lv_iload hx hb d_Model_isNeeded_50 (lv_at hl 0 rfl) ?_
        refine lv_iload_n hx hb d_Model_isNeeded_52 rfl (lv_at hl 3 rfl) ?_
        refine lv_aload_n hx hb d_Model_isNeeded_53 rfl (lv_at hl 1 rfl) ?_
        refine va_get (D := D) (ci := 8) (v := .ref (ad 32)) (C := R_Model) (T := F_Model) (N := 30) hx hb hts hn_Model hown hK hP 0 rfl rfl 6 (by decide) hL17 (fun _ h9 => h9) rfl d_Model_isNeeded_54 ?_
        refine lv_iload_n hx hb d_Model_isNeeded_57 rfl (lv_at hl 2 rfl) ?_
        obtain ⟨hi_4, hf⟩ := q_ck hf
        refine va_iald hx hb hK hP 2 0 rfl rfl hi_4 d_Model_isNeeded_58 ?_
        refine lv_iadd hx hb d_Model_isNeeded_59 ?_
        refine lv_icmp_lt (tgt := 79) hx hb d_Model_isNeeded_60 (by decide) (fun c_5 => ?_) (fun c_5 => ?_)
        · replace hf := q_it hf c_5
          refine lv_iconst (v := 0) hx hb d_Model_isNeeded_79 (by decide) ?_
          refine lv_istore (lv' := [(6, .int 0), (5, .int (v_mpip (Int32.toNatClampNeg x4))), (0, .ref (ad 29)), (1, .int x1), (2, .int x2), (3, .int (bI x3)), (4, .int x4)]) hx hb d_Model_isNeeded_80 hl (by decide) rfl (fun ls hl => ?_)
          refine lv_iload_n hx hb d_Model_isNeeded_82 rfl (lv_at hl 5 rfl) ?_
          refine zv_ne (tgt := 97) hx hb d_Model_isNeeded_83 (by decide) (fun c_6 => ?_) (fun c_6 => ?_)
          · replace hf := q_it hf c_6
            refine lv_iconst (v := 1) hx hb d_Model_isNeeded_97 (by decide) ?_
            refine lv_goto (tgt := 102) hx hb d_Model_isNeeded_98 (by decide) ?_
            refine lv_istore_n (lv' := [(3, .int (bI true)), (6, .int 0), (5, .int (v_mpip (Int32.toNatClampNeg x4))), (0, .ref (ad 29)), (1, .int x1), (2, .int x2), (4, .int x4)]) hx hb d_Model_isNeeded_102 rfl hl (by decide) rfl (fun ls hl => ?_)
            refine lv_iinc (v := (x4 + 1)) (lv' := [(4, .int (x4 + 1)), (3, .int (bI true)), (6, .int 0), (5, .int (v_mpip (Int32.toNatClampNeg x4))), (0, .ref (ad 29)), (1, .int x1), (2, .int x2)]) hx hb d_Model_isNeeded_103 hl (k := 6) rfl rfl (by decide) rfl (fun ls hl => ?_)
            refine lv_goto (tgt := 19) hx hb d_Model_isNeeded_106 (by decide) ?_
            exact (ih) x1 x2 true (x4 + 1) hf ls (lv_sub hl [4, 5, 6, 1, 0] rfl)
          replace hf := q_ie hf c_6
          refine lv_iload hx hb d_Model_isNeeded_86 (lv_at hl 0 rfl) ?_
          refine lv_aload_n hx hb d_Model_isNeeded_88 rfl (lv_at hl 2 rfl) ?_
          refine va_get (D := D) (ci := 8) (v := .ref (ad 35)) (C := R_Model) (T := F_Model) (N := 30) hx hb hts hn_Model hown hK hP 0 rfl rfl 9 (by decide) hL27 (fun _ h9 => h9) rfl d_Model_isNeeded_89 ?_
          refine lv_iload_n hx hb d_Model_isNeeded_92 rfl (lv_at hl 3 rfl) ?_
          obtain ⟨hi_7, hf⟩ := q_ck hf
          refine va_iald hx hb hK hP 3 0 rfl rfl hi_7 d_Model_isNeeded_93 ?_
          refine lv_icmp_gt (tgt := 101) hx hb d_Model_isNeeded_94 (by decide) (fun c_8 => ?_) (fun c_8 => ?_)
          · replace hf := q_it hf c_8
            refine lv_iconst (v := 0) hx hb d_Model_isNeeded_101 (by decide) ?_
            refine lv_istore_n (lv' := [(3, .int (bI false)), (6, .int 0), (5, .int (v_mpip (Int32.toNatClampNeg x4))), (0, .ref (ad 29)), (1, .int x1), (2, .int x2), (4, .int x4)]) hx hb d_Model_isNeeded_102 rfl hl (by decide) rfl (fun ls hl => ?_)
            refine lv_iinc (v := (x4 + 1)) (lv' := [(4, .int (x4 + 1)), (3, .int (bI false)), (6, .int 0), (5, .int (v_mpip (Int32.toNatClampNeg x4))), (0, .ref (ad 29)), (1, .int x1), (2, .int x2)]) hx hb d_Model_isNeeded_103 hl (k := 6) rfl rfl (by decide) rfl (fun ls hl => ?_)
            refine lv_goto (tgt := 19) hx hb d_Model_isNeeded_106 (by decide) ?_
            exact (ih) x1 x2 false (x4 + 1) hf ls (lv_sub hl [4, 5, 6, 1, 0] rfl)
          replace hf := q_ie hf c_8
          refine lv_iconst (v := 1) hx hb d_Model_isNeeded_97 (by decide) ?_
          refine lv_goto (tgt := 102) hx hb d_Model_isNeeded_98 (by decide) ?_
          refine lv_istore_n (lv' := [(3, .int (bI true)), (6, .int 0), (5, .int (v_mpip (Int32.toNatClampNeg x4))), (0, .ref (ad 29)), (1, .int x1), (2, .int x2), (4, .int x4)]) hx hb d_Model_isNeeded_102 rfl hl (by decide) rfl (fun ls hl => ?_)
          refine lv_iinc (v := (x4 + 1)) (lv' := [(4, .int (x4 + 1)), (3, .int (bI true)), (6, .int 0), (5, .int (v_mpip (Int32.toNatClampNeg x4))), (0, .ref (ad 29)), (1, .int x1), (2, .int x2)]) hx hb d_Model_isNeeded_103 hl (k := 6) rfl rfl (by decide) rfl (fun ls hl => ?_)
          refine lv_goto (tgt := 19) hx hb d_Model_isNeeded_106 (by decide) ?_
          exact (ih) x1 x2 true (x4 + 1) hf ls (lv_sub hl [4, 5, 6, 1, 0] rfl)
        replace hf := q_ie hf c_5
        refine lv_iload hx hb d_Model_isNeeded_63 (lv_at hl 0 rfl) ?_
        refine lv_iload_n hx hb d_Model_isNeeded_65 rfl (lv_at hl 3 rfl) ?_
        refine lv_isub hx hb d_Model_isNeeded_66 ?_
        refine lv_aload_n hx hb d_Model_isNeeded_67 rfl (lv_at hl 1 rfl) ?_
        refine va_get (D := D) (ci := 8) (v := .ref (ad 32)) (C := R_Model) (T := F_Model) (N := 30) hx hb hts hn_Model hown hK hP 0 rfl rfl 6 (by decide) hL17 (fun _ h9 => h9) rfl d_Model_isNeeded_68 ?_
        refine lv_iload_n hx hb d_Model_isNeeded_71 rfl (lv_at hl 2 rfl) ?_
        obtain ⟨hi_9, hf⟩ := q_ck hf
        refine va_iald hx hb hK hP 2 0 rfl rfl hi_9 d_Model_isNeeded_72 ?_
        refine lv_isub hx hb d_Model_isNeeded_73 ?_
        refine lv_iconst (v := 1) hx hb d_Model_isNeeded_74 (by decide) ?_
        refine lv_iadd hx hb d_Model_isNeeded_75 ?_
        refine lv_goto (tgt := 80) hx hb d_Model_isNeeded_76 (by decide) ?_
        refine lv_istore (lv' := [(6, .int ((((v_mpip (Int32.toNatClampNeg x4)) - x2) - (v_mwid (Int32.toNatClampNeg x1))) + 1)), (5, .int (v_mpip (Int32.toNatClampNeg x4))), (0, .ref (ad 29)), (1, .int x1), (2, .int x2), (3, .int (bI x3)), (4, .int x4)]) hx hb d_Model_isNeeded_80 hl (by decide) rfl (fun ls hl => ?_)
        refine lv_iload_n hx hb d_Model_isNeeded_82 rfl (lv_at hl 5 rfl) ?_
        refine zv_ne (tgt := 97) hx hb d_Model_isNeeded_83 (by decide) (fun c_10 => ?_) (fun c_10 => ?_)
        · replace hf := q_it hf c_10
          refine lv_iconst (v := 1) hx hb d_Model_isNeeded_97 (by decide) ?_
          refine lv_goto (tgt := 102) hx hb d_Model_isNeeded_98 (by decide) ?_
          refine lv_istore_n (lv' := [(3, .int (bI true)), (6, .int ((((v_mpip (Int32.toNatClampNeg x4)) - x2) - (v_mwid (Int32.toNatClampNeg x1))) + 1)), (5, .int (v_mpip (Int32.toNatClampNeg x4))), (0, .ref (ad 29)), (1, .int x1), (2, .int x2), (4, .int x4)]) hx hb d_Model_isNeeded_102 rfl hl (by decide) rfl (fun ls hl => ?_)
          refine lv_iinc (v := (x4 + 1)) (lv' := [(4, .int (x4 + 1)), (3, .int (bI true)), (6, .int ((((v_mpip (Int32.toNatClampNeg x4)) - x2) - (v_mwid (Int32.toNatClampNeg x1))) + 1)), (5, .int (v_mpip (Int32.toNatClampNeg x4))), (0, .ref (ad 29)), (1, .int x1), (2, .int x2)]) hx hb d_Model_isNeeded_103 hl (k := 6) rfl rfl (by decide) rfl (fun ls hl => ?_)
          refine lv_goto (tgt := 19) hx hb d_Model_isNeeded_106 (by decide) ?_
          exact (ih) x1 x2 true (x4 + 1) hf ls (lv_sub hl [4, 5, 6, 1, 0] rfl)
        replace hf := q_ie hf c_10
        refine lv_iload hx hb d_Model_isNeeded_86 (lv_at hl 0 rfl) ?_
        refine lv_aload_n hx hb d_Model_isNeeded_88 rfl (lv_at hl 2 rfl) ?_
        refine va_get (D := D) (ci := 8) (v := .ref (ad 35)) (C := R_Model) (T := F_Model) (N := 30) hx hb hts hn_Model hown hK hP 0 rfl rfl 9 (by decide) hL27 (fun _ h9 => h9) rfl d_Model_isNeeded_89 ?_
        refine lv_iload_n hx hb d_Model_isNeeded_92 rfl (lv_at hl 3 rfl) ?_
        obtain ⟨hi_11, hf⟩ := q_ck hf
        refine va_iald hx hb hK hP 3 0 rfl rfl hi_11 d_Model_isNeeded_93 ?_
        refine lv_icmp_gt (tgt := 101) hx hb d_Model_isNeeded_94 (by decide) (fun c_12 => ?_) (fun c_12 => ?_)
        · replace hf := q_it hf c_12
          refine lv_iconst (v := 0) hx hb d_Model_isNeeded_101 (by decide) ?_
          refine lv_istore_n (lv' := [(3, .int (bI false)), (6, .int ((((v_mpip (Int32.toNatClampNeg x4)) - x2) - (v_mwid (Int32.toNatClampNeg x1))) + 1)), (5, .int (v_mpip (Int32.toNatClampNeg x4))), (0, .ref (ad 29)), (1, .int x1), (2, .int x2), (4, .int x4)]) hx hb d_Model_isNeeded_102 rfl hl (by decide) rfl (fun ls hl => ?_)
          refine lv_iinc (v := (x4 + 1)) (lv' := [(4, .int (x4 + 1)), (3, .int (bI false)), (6, .int ((((v_mpip (Int32.toNatClampNeg x4)) - x2) - (v_mwid (Int32.toNatClampNeg x1))) + 1)), (5, .int (v_mpip (Int32.toNatClampNeg x4))), (0, .ref (ad 29)), (1, .int x1), (2, .int x2)]) hx hb d_Model_isNeeded_103 hl (k := 6) rfl rfl (by decide) rfl (fun ls hl => ?_)
          refine lv_goto (tgt := 19) hx hb d_Model_isNeeded_106 (by decide) ?_
          exact (ih) x1 x2 false (x4 + 1) hf ls (lv_sub hl [4, 5, 6, 1, 0] rfl)
        replace hf := q_ie hf c_12
        refine lv_iconst (v := 1) hx hb d_Model_isNeeded_97 (by decide) ?_
        refine lv_goto (tgt := 102) hx hb d_Model_isNeeded_98 (by decide) ?_
        refine lv_istore_n (lv' := [(3, .int (bI true)), (6, .int ((((v_mpip (Int32.toNatClampNeg x4)) - x2) - (v_mwid (Int32.toNatClampNeg x1))) + 1)), (5, .int (v_mpip (Int32.toNatClampNeg x4))), (0, .ref (ad 29)), (1, .int x1), (2, .int x2), (4, .int x4)]) hx hb d_Model_isNeeded_102 rfl hl (by decide) rfl (fun ls hl => ?_)
        refine lv_iinc (v := (x4 + 1)) (lv' := [(4, .int (x4 + 1)), (3, .int (bI true)), (6, .int ((((v_mpip (Int32.toNatClampNeg x4)) - x2) - (v_mwid (Int32.toNatClampNeg x1))) + 1)), (5, .int (v_mpip (Int32.toNatClampNeg x4))), (0, .ref (ad 29)), (1, .int x1), (2, .int x2)]) hx hb d_Model_isNeeded_103 hl (k := 6) rfl rfl (by decide) rfl (fun ls hl => ?_)
        refine lv_goto (tgt := 19) hx hb d_Model_isNeeded_106 (by decide) ?_
        exact (ih) x1 x2 true (x4 + 1) hf ls (lv_sub hl [4, 5, 6, 1, 0] rfl)
      replace hf := q_ie hf c_3
      refine lv_iload_n hx hb d_Model_isNeeded_43 rfl (lv_at hl 3 rfl) ?_
      refine lv_iload hx hb d_Model_isNeeded_44 (lv_at hl 0 rfl) ?_
      refine lv_isub hx hb d_Model_isNeeded_46 ?_
      refine lv_goto (tgt := 80) hx hb d_Model_isNeeded_47 (by decide) ?_
      refine lv_istore (lv' := [(6, .int (x2 - (v_mpip (Int32.toNatClampNeg x4)))), (5, .int (v_mpip (Int32.toNatClampNeg x4))), (0, .ref (ad 29)), (1, .int x1), (2, .int x2), (3, .int (bI x3)), (4, .int x4)]) hx hb d_Model_isNeeded_80 hl (by decide) rfl (fun ls hl => ?_)
      refine lv_iload_n hx hb d_Model_isNeeded_82 rfl (lv_at hl 5 rfl) ?_
      refine zv_ne (tgt := 97) hx hb d_Model_isNeeded_83 (by decide) (fun c_13 => ?_) (fun c_13 => ?_)
      · replace hf := q_it hf c_13
        refine lv_iconst (v := 1) hx hb d_Model_isNeeded_97 (by decide) ?_
        refine lv_goto (tgt := 102) hx hb d_Model_isNeeded_98 (by decide) ?_
        refine lv_istore_n (lv' := [(3, .int (bI true)), (6, .int (x2 - (v_mpip (Int32.toNatClampNeg x4)))), (5, .int (v_mpip (Int32.toNatClampNeg x4))), (0, .ref (ad 29)), (1, .int x1), (2, .int x2), (4, .int x4)]) hx hb d_Model_isNeeded_102 rfl hl (by decide) rfl (fun ls hl => ?_)
        refine lv_iinc (v := (x4 + 1)) (lv' := [(4, .int (x4 + 1)), (3, .int (bI true)), (6, .int (x2 - (v_mpip (Int32.toNatClampNeg x4)))), (5, .int (v_mpip (Int32.toNatClampNeg x4))), (0, .ref (ad 29)), (1, .int x1), (2, .int x2)]) hx hb d_Model_isNeeded_103 hl (k := 6) rfl rfl (by decide) rfl (fun ls hl => ?_)
        refine lv_goto (tgt := 19) hx hb d_Model_isNeeded_106 (by decide) ?_
        exact (ih) x1 x2 true (x4 + 1) hf ls (lv_sub hl [4, 5, 6, 1, 0] rfl)
      replace hf := q_ie hf c_13
      refine lv_iload hx hb d_Model_isNeeded_86 (lv_at hl 0 rfl) ?_
      refine lv_aload_n hx hb d_Model_isNeeded_88 rfl (lv_at hl 2 rfl) ?_
      refine va_get (D := D) (ci := 8) (v := .ref (ad 35)) (C := R_Model) (T := F_Model) (N := 30) hx hb hts hn_Model hown hK hP 0 rfl rfl 9 (by decide) hL27 (fun _ h9 => h9) rfl d_Model_isNeeded_89 ?_
      refine lv_iload_n hx hb d_Model_isNeeded_92 rfl (lv_at hl 3 rfl) ?_
      obtain ⟨hi_14, hf⟩ := q_ck hf
      refine va_iald hx hb hK hP 3 0 rfl rfl hi_14 d_Model_isNeeded_93 ?_
      refine lv_icmp_gt (tgt := 101) hx hb d_Model_isNeeded_94 (by decide) (fun c_15 => ?_) (fun c_15 => ?_)
      · replace hf := q_it hf c_15
        refine lv_iconst (v := 0) hx hb d_Model_isNeeded_101 (by decide) ?_
        refine lv_istore_n (lv' := [(3, .int (bI false)), (6, .int (x2 - (v_mpip (Int32.toNatClampNeg x4)))), (5, .int (v_mpip (Int32.toNatClampNeg x4))), (0, .ref (ad 29)), (1, .int x1), (2, .int x2), (4, .int x4)]) hx hb d_Model_isNeeded_102 rfl hl (by decide) rfl (fun ls hl => ?_)
        refine lv_iinc (v := (x4 + 1)) (lv' := [(4, .int (x4 + 1)), (3, .int (bI false)), (6, .int (x2 - (v_mpip (Int32.toNatClampNeg x4)))), (5, .int (v_mpip (Int32.toNatClampNeg x4))), (0, .ref (ad 29)), (1, .int x1), (2, .int x2)]) hx hb d_Model_isNeeded_103 hl (k := 6) rfl rfl (by decide) rfl (fun ls hl => ?_)
        refine lv_goto (tgt := 19) hx hb d_Model_isNeeded_106 (by decide) ?_
        exact (ih) x1 x2 false (x4 + 1) hf ls (lv_sub hl [4, 5, 6, 1, 0] rfl)
      replace hf := q_ie hf c_15
      refine lv_iconst (v := 1) hx hb d_Model_isNeeded_97 (by decide) ?_
      refine lv_goto (tgt := 102) hx hb d_Model_isNeeded_98 (by decide) ?_
      refine lv_istore_n (lv' := [(3, .int (bI true)), (6, .int (x2 - (v_mpip (Int32.toNatClampNeg x4)))), (5, .int (v_mpip (Int32.toNatClampNeg x4))), (0, .ref (ad 29)), (1, .int x1), (2, .int x2), (4, .int x4)]) hx hb d_Model_isNeeded_102 rfl hl (by decide) rfl (fun ls hl => ?_)
      refine lv_iinc (v := (x4 + 1)) (lv' := [(4, .int (x4 + 1)), (3, .int (bI true)), (6, .int (x2 - (v_mpip (Int32.toNatClampNeg x4)))), (5, .int (v_mpip (Int32.toNatClampNeg x4))), (0, .ref (ad 29)), (1, .int x1), (2, .int x2)]) hx hb d_Model_isNeeded_103 hl (k := 6) rfl rfl (by decide) rfl (fun ls hl => ?_)
      refine lv_goto (tgt := 19) hx hb d_Model_isNeeded_106 (by decide) ?_
      exact (ih) x1 x2 true (x4 + 1) hf ls (lv_sub hl [4, 5, 6, 1, 0] rfl)
  unfold f_Model_isNeeded at hf
  refine lv_aload_n hx hb d_Model_isNeeded_0 rfl (lv_at hl 0 rfl) ?_
  refine va_get (D := D) (ci := 8) (v := .ref (ad 35)) (C := R_Model) (T := F_Model) (N := 30) hx hb hts hn_Model hown hK hP 0 rfl rfl 9 (by decide) hL27 (fun _ h9 => h9) rfl d_Model_isNeeded_1 ?_
  refine lv_iload_n hx hb d_Model_isNeeded_4 rfl (lv_at hl 1 rfl) ?_
  obtain ⟨hi_16, hf⟩ := q_ck hf
  refine va_iald hx hb hK hP 3 0 rfl rfl hi_16 d_Model_isNeeded_5 ?_
  refine lv_iconst (v := (-1)) hx hb d_Model_isNeeded_6 (by decide) ?_
  refine lv_icmp_ne (tgt := 14) hx hb d_Model_isNeeded_7 (by decide) (fun c_17 => ?_) (fun c_17 => ?_)
  · replace hf := q_ie hf c_17
    refine lv_iconst (v := 0) hx hb d_Model_isNeeded_14 (by decide) ?_
    refine lv_istore_n (lv' := [(3, .int (bI false)), (0, .ref (ad 29)), (1, .int p1), (2, .int p2)]) hx hb d_Model_isNeeded_15 rfl hl (by decide) rfl (fun ls hl => ?_)
    refine lv_iconst (v := 0) hx hb d_Model_isNeeded_16 (by decide) ?_
    refine lv_istore (lv' := [(4, .int 0), (3, .int (bI false)), (0, .ref (ad 29)), (1, .int p1), (2, .int p2)]) hx hb d_Model_isNeeded_17 hl (by decide) rfl (fun ls hl => ?_)
    exact (key N) p1 p2 false 0 hf ls (lv_sub hl [2, 3, 4, 1, 0] rfl)
  replace hf := q_it hf c_17
  refine lv_iconst (v := 1) hx hb d_Model_isNeeded_10 (by decide) ?_
  refine lv_goto (tgt := 15) hx hb d_Model_isNeeded_11 (by decide) ?_
  refine lv_istore_n (lv' := [(3, .int (bI true)), (0, .ref (ad 29)), (1, .int p1), (2, .int p2)]) hx hb d_Model_isNeeded_15 rfl hl (by decide) rfl (fun ls hl => ?_)
  refine lv_iconst (v := 0) hx hb d_Model_isNeeded_16 (by decide) ?_
  refine lv_istore (lv' := [(4, .int 0), (3, .int (bI true)), (0, .ref (ad 29)), (1, .int p1), (2, .int p2)]) hx hb d_Model_isNeeded_17 hl (by decide) rfl (fun ls hl => ?_)
  exact (key N) p1 p2 true 0 hf ls (lv_sub hl [2, 3, 4, 1, 0] rfl)
def f_Model_isClear (N : Nat) (n_mclr : Nat) (v_mod_code : Int32) (v_mod_steps : Int32) (v_mod_pipes : Int32) (v_mod_items : Int32) (v_mod_least : Int32) (v_mod_most : Int32) (v_mod_hasPlan : Bool) (v_mod_told : Int32) (v_mod_pieces : Int32) (v_mod_planWorth : Int64) (v_mod_planCents : Int64) (v_mclr : Nat → Int32) (p1 : Int32) (p2 : Int32) : Option (Bool) := (if p1 < 0 ∨ n_mclr ≤ Int32.toNatClampNeg p1 then none else (if (v_mclr (Int32.toNatClampNeg p1)) < p2 then (some false) else (some true)))
set_option maxRecDepth 100000 in
set_option maxHeartbeats 4000000 in
theorem c_Model_isClear (l : Launch) (D : va_G) (ad : Nat → Nat) (ki : Nat → ClassId) (n_mclr : Nat) (v_mod_code : Int32) (v_mod_steps : Int32) (v_mod_pipes : Int32) (v_mod_items : Int32) (v_mod_least : Int32) (v_mod_most : Int32) (v_mod_hasPlan : Bool) (v_mod_told : Int32) (v_mod_pieces : Int32) (v_mod_planWorth : Int64) (v_mod_planCents : Int64) (v_mclr : Nat → Int32) (p1 : Int32) (p2 : Int32) (N : Nat) (r : Bool) (hf : f_Model_isClear N n_mclr v_mod_code v_mod_steps v_mod_pipes v_mod_items v_mod_least v_mod_most v_mod_hasPlan v_mod_told v_mod_pieces v_mod_planWorth v_mod_planCents v_mclr p1 p2 = some r) : Met l y_Model_isClear w_Model_isClear { frames := 0, cells := 0, slots := 0, locals := 0 } (q_PcP [.ref (ad 29), .int p1, .int p2] D vwCl [(ad 29, .inr (8, [.int v_mod_code, .int v_mod_steps, .ref (ad 30), .int v_mod_pipes, .ref (ad 31), .int v_mod_items, .ref (ad 32), .ref (ad 33), .ref (ad 34), .ref (ad 35), .ref (ad 36), .ref (ad 37), .ref (ad 38), .int v_mod_least, .int v_mod_most, .ref (ad 39), .ref (ad 40), .ref (ad 41), .ref (ad 42), .ref (ad 43), .ref (ad 44), .int (bI v_mod_hasPlan), .int v_mod_told, .ref (ad 45), .int v_mod_pieces, .ref (ad 46), .ref (ad 47), .ref (ad 48), .long v_mod_planWorth, .long v_mod_planCents])), (ad 43, .inl (ki 0, n_mclr, .inl v_mclr))] (TYS ki)) (k2_QcV (.int (bI r))) 0 0 (fun _ => False) := by
  refine Met.ofW (cc := b_Model_isClear) (maxL := 3) (ret := (some .boolean)) (by decide) rfl ?_
  intro p e s m args below meth c s₁ B hml hv
  obtain ⟨rfl, hP, hK, hE⟩ := hv
  have hx := B.exec
  have hb := B.bytes
  have hr := B.returns
  have hts := atoms_spec (ws := w_Model_isClear) B.pre
  have hown : s.vm.findClass R_Model = some m.cls := findClass_of_methodNamed B.named
  have hlocks := B.notSynchronized
  have hn_Model : ∀ w ∈ u_ws R_Model F_Model 30, w ∈ w_Model_isClear := (fun w h => List.mem_cons_of_mem _ (i_Model w h))
  have hL51 := hts (.fieldLink R_Model 51 "RoomFillsModel" "clearFrom" "[I") (List.mem_cons_of_mem _ m_862)
  replace hP : va_P D vwCl [(ad 29, .inr (8, [.int v_mod_code, .int v_mod_steps, .ref (ad 30), .int v_mod_pipes, .ref (ad 31), .int v_mod_items, .ref (ad 32), .ref (ad 33), .ref (ad 34), .ref (ad 35), .ref (ad 36), .ref (ad 37), .ref (ad 38), .int v_mod_least, .int v_mod_most, .ref (ad 39), .ref (ad 40), .ref (ad 41), .ref (ad 42), .ref (ad 43), .ref (ad 44), .int (bI v_mod_hasPlan), .int v_mod_told, .ref (ad 45), .int v_mod_pieces, .ref (ad 46), .ref (ad 47), .ref (ad 48), .long v_mod_planWorth, .long v_mod_planCents])), (ad 43, .inl (ki 0, n_mclr, .inl v_mclr))] s.heap := hP
  have hl := lv_entry ([.ref (ad 29), .int p1, .int p2]) (n := 3) (Nat.le_of_ble_eq_true rfl)
  rw [lg_entry_eq]
  generalize (lg_sl ([.ref (ad 29), .int p1, .int p2]) ++ List.replicate (3 - (lg_sl ([.ref (ad 29), .int p1, .int p2])).length) Slot.unset).toArray = ls at hl ⊢
  replace hl : lv_has ls 3 [(0, .ref (ad 29)), (1, .int p1), (2, .int p2)] := hl
  unfold f_Model_isClear at hf
  refine lv_aload_n hx hb d_Model_isClear_0 rfl (lv_at hl 0 rfl) ?_
  refine va_get (D := D) (ci := 8) (v := .ref (ad 43)) (C := R_Model) (T := F_Model) (N := 30) hx hb hts hn_Model hown hK hP 0 rfl rfl 19 (by decide) hL51 (fun _ h9 => h9) rfl d_Model_isClear_1 ?_
  refine lv_iload_n hx hb d_Model_isClear_4 rfl (lv_at hl 1 rfl) ?_
  obtain ⟨hi_1, hf⟩ := q_ck hf
  refine va_iald hx hb hK hP 1 0 rfl rfl hi_1 d_Model_isClear_5 ?_
  refine lv_iload_n hx hb d_Model_isClear_6 rfl (lv_at hl 2 rfl) ?_
  refine lv_icmp_lt (tgt := 14) hx hb d_Model_isClear_7 (by decide) (fun c_2 => ?_) (fun c_2 => ?_)
  · replace hf := q_it hf c_2
    refine lv_iconst (v := 0) hx hb d_Model_isClear_14 (by decide) ?_
    cases hf
    exact W.zret (v := bI false) hx hb hr (bI_nar _) (fun t ht hW => ⟨rfl, ht⟩) (fun q h => nomatch h) d_Model_isClear_15
  replace hf := q_ie hf c_2
  refine lv_iconst (v := 1) hx hb d_Model_isClear_10 (by decide) ?_
  refine lv_goto (tgt := 15) hx hb d_Model_isClear_11 (by decide) ?_
  cases hf
  exact W.zret (v := bI true) hx hb hr (bI_nar _) (fun t ht hW => ⟨rfl, ht⟩) (fun q h => nomatch h) d_Model_isClear_15
def f_Model_look_cut (N : Nat) (n_mfree : Nat) (n_mpip : Nat) (n_mwid : Nat) (n_mnee : Nat) (n_mclr : Nat) (n_mmet : Nat) (v_mod_code : Int32) (v_mod_steps : Int32) (v_mod_pipes : Int32) (v_mod_items : Int32) (v_mod_least : Int32) (v_mod_most : Int32) (v_mod_hasPlan : Bool) (v_mod_told : Int32) (v_mod_pieces : Int32) (v_mod_planWorth : Int64) (v_mod_planCents : Int64) (v_mfree : Nat → Int32) (v_mpip : Nat → Int32) (v_mwid : Nat → Int32) (v_mnee : Nat → Int32) : Nat → Nat → Int32 → Int32 → (Nat → Int32) → (Nat → Int32) → Option ((Nat → Int32) × (Nat → Int32))
  | 0, _, _, _, _, _ => none
  | n + 1, t, x1, x2, v_mclr, v_mmet => if t = 0 then (if x1 < 0 then (some (v_mclr, v_mmet)) else (if x1 < 0 ∨ n_mfree ≤ Int32.toNatClampNeg x1 then none else (if (v_mfree (Int32.toNatClampNeg x1)) = 0 then (if (x1 + 1) < 0 ∨ n_mclr ≤ Int32.toNatClampNeg (x1 + 1) then none else (if x1 < 0 ∨ n_mclr ≤ Int32.toNatClampNeg x1 then none else (f_Model_look_cut N n_mfree n_mpip n_mwid n_mnee n_mclr n_mmet v_mod_code v_mod_steps v_mod_pipes v_mod_items v_mod_least v_mod_most v_mod_hasPlan v_mod_told v_mod_pieces v_mod_planWorth v_mod_planCents v_mfree v_mpip v_mwid v_mnee n 1 x1 0 (upd v_mclr (Int32.toNatClampNeg x1) ((v_mclr (Int32.toNatClampNeg (x1 + 1))) + 1)) v_mmet))) else (if x1 < 0 ∨ n_mclr ≤ Int32.toNatClampNeg x1 then none else (f_Model_look_cut N n_mfree n_mpip n_mwid n_mnee n_mclr n_mmet v_mod_code v_mod_steps v_mod_pipes v_mod_items v_mod_least v_mod_most v_mod_hasPlan v_mod_told v_mod_pieces v_mod_planWorth v_mod_planCents v_mfree v_mpip v_mwid v_mnee n 1 x1 0 (upd v_mclr (Int32.toNatClampNeg x1) 0) v_mmet))))) else (if v_mod_items ≤ x2 then (f_Model_look_cut N n_mfree n_mpip n_mwid n_mnee n_mclr n_mmet v_mod_code v_mod_steps v_mod_pipes v_mod_items v_mod_least v_mod_most v_mod_hasPlan v_mod_told v_mod_pieces v_mod_planWorth v_mod_planCents v_mfree v_mpip v_mwid v_mnee n 0 (x1 + (-1)) 0 v_mclr v_mmet) else (Option.bind (f_Model_isNeeded N n_mpip n_mwid n_mnee v_mod_code v_mod_steps v_mod_pipes v_mod_items v_mod_least v_mod_most v_mod_hasPlan v_mod_told v_mod_pieces v_mod_planWorth v_mod_planCents v_mpip v_mwid v_mnee x2 x1) (fun r_8 => (if ((41 * x2) + x1) < 0 ∨ n_mmet ≤ Int32.toNatClampNeg ((41 * x2) + x1) then none else (f_Model_look_cut N n_mfree n_mpip n_mwid n_mnee n_mclr n_mmet v_mod_code v_mod_steps v_mod_pipes v_mod_items v_mod_least v_mod_most v_mod_hasPlan v_mod_told v_mod_pieces v_mod_planWorth v_mod_planCents v_mfree v_mpip v_mwid v_mnee n 1 x1 (x2 + 1) v_mclr (upd v_mmet (Int32.toNatClampNeg ((41 * x2) + x1)) (vp_nar .boolean (bI r_8))))))))
theorem f_Model_look_cut_0 (N : Nat) (n_mfree : Nat) (n_mpip : Nat) (n_mwid : Nat) (n_mnee : Nat) (n_mclr : Nat) (n_mmet : Nat) (v_mod_code : Int32) (v_mod_steps : Int32) (v_mod_pipes : Int32) (v_mod_items : Int32) (v_mod_least : Int32) (v_mod_most : Int32) (v_mod_hasPlan : Bool) (v_mod_told : Int32) (v_mod_pieces : Int32) (v_mod_planWorth : Int64) (v_mod_planCents : Int64) (v_mfree : Nat → Int32) (v_mpip : Nat → Int32) (v_mwid : Nat → Int32) (v_mnee : Nat → Int32) (n : Nat) (x1 : Int32) (x2 : Int32) (v_mclr : Nat → Int32) (v_mmet : Nat → Int32) : f_Model_look_cut N n_mfree n_mpip n_mwid n_mnee n_mclr n_mmet v_mod_code v_mod_steps v_mod_pipes v_mod_items v_mod_least v_mod_most v_mod_hasPlan v_mod_told v_mod_pieces v_mod_planWorth v_mod_planCents v_mfree v_mpip v_mwid v_mnee (n + 1) 0 x1 x2 v_mclr v_mmet = (if x1 < 0 then (some (v_mclr, v_mmet)) else (if x1 < 0 ∨ n_mfree ≤ Int32.toNatClampNeg x1 then none else (if (v_mfree (Int32.toNatClampNeg x1)) = 0 then (if (x1 + 1) < 0 ∨ n_mclr ≤ Int32.toNatClampNeg (x1 + 1) then none else (if x1 < 0 ∨ n_mclr ≤ Int32.toNatClampNeg x1 then none else (f_Model_look_cut N n_mfree n_mpip n_mwid n_mnee n_mclr n_mmet v_mod_code v_mod_steps v_mod_pipes v_mod_items v_mod_least v_mod_most v_mod_hasPlan v_mod_told v_mod_pieces v_mod_planWorth v_mod_planCents v_mfree v_mpip v_mwid v_mnee n 1 x1 0 (upd v_mclr (Int32.toNatClampNeg x1) ((v_mclr (Int32.toNatClampNeg (x1 + 1))) + 1)) v_mmet))) else (if x1 < 0 ∨ n_mclr ≤ Int32.toNatClampNeg x1 then none else (f_Model_look_cut N n_mfree n_mpip n_mwid n_mnee n_mclr n_mmet v_mod_code v_mod_steps v_mod_pipes v_mod_items v_mod_least v_mod_most v_mod_hasPlan v_mod_told v_mod_pieces v_mod_planWorth v_mod_planCents v_mfree v_mpip v_mwid v_mnee n 1 x1 0 (upd v_mclr (Int32.toNatClampNeg x1) 0) v_mmet))))) := rfl
theorem f_Model_look_cut_1 (N : Nat) (n_mfree : Nat) (n_mpip : Nat) (n_mwid : Nat) (n_mnee : Nat) (n_mclr : Nat) (n_mmet : Nat) (v_mod_code : Int32) (v_mod_steps : Int32) (v_mod_pipes : Int32) (v_mod_items : Int32) (v_mod_least : Int32) (v_mod_most : Int32) (v_mod_hasPlan : Bool) (v_mod_told : Int32) (v_mod_pieces : Int32) (v_mod_planWorth : Int64) (v_mod_planCents : Int64) (v_mfree : Nat → Int32) (v_mpip : Nat → Int32) (v_mwid : Nat → Int32) (v_mnee : Nat → Int32) (n : Nat) (x1 : Int32) (x2 : Int32) (v_mclr : Nat → Int32) (v_mmet : Nat → Int32) : f_Model_look_cut N n_mfree n_mpip n_mwid n_mnee n_mclr n_mmet v_mod_code v_mod_steps v_mod_pipes v_mod_items v_mod_least v_mod_most v_mod_hasPlan v_mod_told v_mod_pieces v_mod_planWorth v_mod_planCents v_mfree v_mpip v_mwid v_mnee (n + 1) 1 x1 x2 v_mclr v_mmet = (if v_mod_items ≤ x2 then (f_Model_look_cut N n_mfree n_mpip n_mwid n_mnee n_mclr n_mmet v_mod_code v_mod_steps v_mod_pipes v_mod_items v_mod_least v_mod_most v_mod_hasPlan v_mod_told v_mod_pieces v_mod_planWorth v_mod_planCents v_mfree v_mpip v_mwid v_mnee n 0 (x1 + (-1)) 0 v_mclr v_mmet) else (Option.bind (f_Model_isNeeded N n_mpip n_mwid n_mnee v_mod_code v_mod_steps v_mod_pipes v_mod_items v_mod_least v_mod_most v_mod_hasPlan v_mod_told v_mod_pieces v_mod_planWorth v_mod_planCents v_mpip v_mwid v_mnee x2 x1) (fun r_8 => (if ((41 * x2) + x1) < 0 ∨ n_mmet ≤ Int32.toNatClampNeg ((41 * x2) + x1) then none else (f_Model_look_cut N n_mfree n_mpip n_mwid n_mnee n_mclr n_mmet v_mod_code v_mod_steps v_mod_pipes v_mod_items v_mod_least v_mod_most v_mod_hasPlan v_mod_told v_mod_pieces v_mod_planWorth v_mod_planCents v_mfree v_mpip v_mwid v_mnee n 1 x1 (x2 + 1) v_mclr (upd v_mmet (Int32.toNatClampNeg ((41 * x2) + x1)) (vp_nar .boolean (bI r_8)))))))) := rfl
def f_Model_look (N : Nat) (n_mfree : Nat) (n_mpip : Nat) (n_mwid : Nat) (n_mnee : Nat) (n_mclr : Nat) (n_mmet : Nat) (v_mod_code : Int32) (v_mod_steps : Int32) (v_mod_pipes : Int32) (v_mod_items : Int32) (v_mod_least : Int32) (v_mod_most : Int32) (v_mod_hasPlan : Bool) (v_mod_told : Int32) (v_mod_pieces : Int32) (v_mod_planWorth : Int64) (v_mod_planCents : Int64) (v_mfree : Nat → Int32) (v_mpip : Nat → Int32) (v_mwid : Nat → Int32) (v_mnee : Nat → Int32) (v_mclr : Nat → Int32) (v_mmet : Nat → Int32)  : Option ((Nat → Int32) × (Nat → Int32)) := (if v_mod_steps < 0 ∨ n_mclr ≤ Int32.toNatClampNeg v_mod_steps then none else (f_Model_look_cut N n_mfree n_mpip n_mwid n_mnee n_mclr n_mmet v_mod_code v_mod_steps v_mod_pipes v_mod_items v_mod_least v_mod_most v_mod_hasPlan v_mod_told v_mod_pieces v_mod_planWorth v_mod_planCents v_mfree v_mpip v_mwid v_mnee N 0 (v_mod_steps - 1) 0 (upd v_mclr (Int32.toNatClampNeg v_mod_steps) 0) v_mmet))
set_option maxRecDepth 100000 in
set_option maxHeartbeats 4000000 in
theorem c_Model_look (l : Launch) (D : va_G) (ad : Nat → Nat) (ki : Nat → ClassId) (n_mfree : Nat) (n_mpip : Nat) (n_mwid : Nat) (n_mnee : Nat) (n_mclr : Nat) (n_mmet : Nat) (v_mod_code : Int32) (v_mod_steps : Int32) (v_mod_pipes : Int32) (v_mod_items : Int32) (v_mod_least : Int32) (v_mod_most : Int32) (v_mod_hasPlan : Bool) (v_mod_told : Int32) (v_mod_pieces : Int32) (v_mod_planWorth : Int64) (v_mod_planCents : Int64) (v_mfree : Nat → Int32) (v_mpip : Nat → Int32) (v_mwid : Nat → Int32) (v_mnee : Nat → Int32) (v_mclr : Nat → Int32) (v_mmet : Nat → Int32)  (N : Nat) (sz : Nat) (ov_mclr : Nat → Int32) (ov_mmet : Nat → Int32) (hf : f_Model_look N n_mfree n_mpip n_mwid n_mnee n_mclr n_mmet v_mod_code v_mod_steps v_mod_pipes v_mod_items v_mod_least v_mod_most v_mod_hasPlan v_mod_told v_mod_pieces v_mod_planWorth v_mod_planCents v_mfree v_mpip v_mwid v_mnee v_mclr v_mmet = some (ov_mclr, ov_mmet)) : Met l y_Model_look w_Model_look { frames := 1, cells := 0, slots := 0, locals := 26 } (q_PcM [.ref (ad 29)] D vwCl [(ad 29, .inr (8, [.int v_mod_code, .int v_mod_steps, .ref (ad 30), .int v_mod_pipes, .ref (ad 31), .int v_mod_items, .ref (ad 32), .ref (ad 33), .ref (ad 34), .ref (ad 35), .ref (ad 36), .ref (ad 37), .ref (ad 38), .int v_mod_least, .int v_mod_most, .ref (ad 39), .ref (ad 40), .ref (ad 41), .ref (ad 42), .ref (ad 43), .ref (ad 44), .int (bI v_mod_hasPlan), .int v_mod_told, .ref (ad 45), .int v_mod_pieces, .ref (ad 46), .ref (ad 47), .ref (ad 48), .long v_mod_planWorth, .long v_mod_planCents])), (ad 30, .inl (ki 2, n_mfree, .inl v_mfree)), (ad 31, .inl (ki 0, n_mpip, .inl v_mpip)), (ad 32, .inl (ki 0, n_mwid, .inl v_mwid)), (ad 35, .inl (ki 0, n_mnee, .inl v_mnee)), (ad 43, .inl (ki 0, n_mclr, .inl v_mclr)), (ad 44, .inl (ki 2, n_mmet, .inl v_mmet))] (TYS ki) sz) (q_Qm (none) D vwCl [(ad 29, .inr (8, [.int v_mod_code, .int v_mod_steps, .ref (ad 30), .int v_mod_pipes, .ref (ad 31), .int v_mod_items, .ref (ad 32), .ref (ad 33), .ref (ad 34), .ref (ad 35), .ref (ad 36), .ref (ad 37), .ref (ad 38), .int v_mod_least, .int v_mod_most, .ref (ad 39), .ref (ad 40), .ref (ad 41), .ref (ad 42), .ref (ad 43), .ref (ad 44), .int (bI v_mod_hasPlan), .int v_mod_told, .ref (ad 45), .int v_mod_pieces, .ref (ad 46), .ref (ad 47), .ref (ad 48), .long v_mod_planWorth, .long v_mod_planCents])), (ad 30, .inl (ki 2, n_mfree, .inl v_mfree)), (ad 31, .inl (ki 0, n_mpip, .inl v_mpip)), (ad 32, .inl (ki 0, n_mwid, .inl v_mwid)), (ad 35, .inl (ki 0, n_mnee, .inl v_mnee)), (ad 43, .inl (ki 0, n_mclr, .inl ov_mclr)), (ad 44, .inl (ki 2, n_mmet, .inl ov_mmet))] (va_A [(ad 29, .inr (8, [.int v_mod_code, .int v_mod_steps, .ref (ad 30), .int v_mod_pipes, .ref (ad 31), .int v_mod_items, .ref (ad 32), .ref (ad 33), .ref (ad 34), .ref (ad 35), .ref (ad 36), .ref (ad 37), .ref (ad 38), .int v_mod_least, .int v_mod_most, .ref (ad 39), .ref (ad 40), .ref (ad 41), .ref (ad 42), .ref (ad 43), .ref (ad 44), .int (bI v_mod_hasPlan), .int v_mod_told, .ref (ad 45), .int v_mod_pieces, .ref (ad 46), .ref (ad 47), .ref (ad 48), .long v_mod_planWorth, .long v_mod_planCents])), (ad 30, .inl (ki 2, n_mfree, .inl v_mfree)), (ad 31, .inl (ki 0, n_mpip, .inl v_mpip)), (ad 32, .inl (ki 0, n_mwid, .inl v_mwid)), (ad 35, .inl (ki 0, n_mnee, .inl v_mnee)), (ad 43, .inl (ki 0, n_mclr, .inl v_mclr)), (ad 44, .inl (ki 2, n_mmet, .inl v_mmet))] sz)) 0 0 (va_A [(ad 29, .inr (8, [.int v_mod_code, .int v_mod_steps, .ref (ad 30), .int v_mod_pipes, .ref (ad 31), .int v_mod_items, .ref (ad 32), .ref (ad 33), .ref (ad 34), .ref (ad 35), .ref (ad 36), .ref (ad 37), .ref (ad 38), .int v_mod_least, .int v_mod_most, .ref (ad 39), .ref (ad 40), .ref (ad 41), .ref (ad 42), .ref (ad 43), .ref (ad 44), .int (bI v_mod_hasPlan), .int v_mod_told, .ref (ad 45), .int v_mod_pieces, .ref (ad 46), .ref (ad 47), .ref (ad 48), .long v_mod_planWorth, .long v_mod_planCents])), (ad 30, .inl (ki 2, n_mfree, .inl v_mfree)), (ad 31, .inl (ki 0, n_mpip, .inl v_mpip)), (ad 32, .inl (ki 0, n_mwid, .inl v_mwid)), (ad 35, .inl (ki 0, n_mnee, .inl v_mnee)), (ad 43, .inl (ki 0, n_mclr, .inl v_mclr)), (ad 44, .inl (ki 2, n_mmet, .inl v_mmet))] sz) := by
  refine Met.ofW (cc := b_Model_look) (maxL := 3) (ret := none) (by decide) rfl ?_
  intro p e s m args below meth c s₁ B hml hv
  obtain ⟨rfl, hsz, hP, hK, hD0, hE⟩ := hv
  have hx := B.exec
  have hb := B.bytes
  have hr := B.returns
  have hts := atoms_spec (ws := w_Model_look) B.pre
  have hown : s.vm.findClass R_Model = some m.cls := findClass_of_methodNamed B.named
  have hlocks := B.notSynchronized
  have hn_Model : ∀ w ∈ u_ws R_Model F_Model 30, w ∈ w_Model_look := (fun w h => List.mem_cons_of_mem _ (i_Model w h))
  have hL7 := hts (.fieldLink R_Model 7 "RoomFillsModel" "free" "[Z") (List.mem_cons_of_mem _ m_845)
  have hL51 := hts (.fieldLink R_Model 51 "RoomFillsModel" "clearFrom" "[I") (List.mem_cons_of_mem _ m_862)
  have hL54 := hts (.fieldLink R_Model 54 "RoomFillsModel" "met" "[Z") (List.mem_cons_of_mem _ m_863)
  have hL69 := hts (.fieldLink R_Model 69 "RoomFillsModel" "steps" "I") (List.mem_cons_of_mem _ m_844)
  have hL97 := hts (.fieldLink R_Model 97 "RoomFillsModel" "items" "I") (List.mem_cons_of_mem _ m_848)
  subst hsz
  have hD := hD0.self (sz := s.heap.size)
  generalize hAe : va_A [(ad 29, .inr (8, [.int v_mod_code, .int v_mod_steps, .ref (ad 30), .int v_mod_pipes, .ref (ad 31), .int v_mod_items, .ref (ad 32), .ref (ad 33), .ref (ad 34), .ref (ad 35), .ref (ad 36), .ref (ad 37), .ref (ad 38), .int v_mod_least, .int v_mod_most, .ref (ad 39), .ref (ad 40), .ref (ad 41), .ref (ad 42), .ref (ad 43), .ref (ad 44), .int (bI v_mod_hasPlan), .int v_mod_told, .ref (ad 45), .int v_mod_pieces, .ref (ad 46), .ref (ad 47), .ref (ad 48), .long v_mod_planWorth, .long v_mod_planCents])), (ad 30, .inl (ki 2, n_mfree, .inl v_mfree)), (ad 31, .inl (ki 0, n_mpip, .inl v_mpip)), (ad 32, .inl (ki 0, n_mwid, .inl v_mwid)), (ad 35, .inl (ki 0, n_mnee, .inl v_mnee)), (ad 43, .inl (ki 0, n_mclr, .inl v_mclr)), (ad 44, .inl (ki 2, n_mmet, .inl v_mmet))] s.heap.size = A at hD ⊢
  have hA : ∀ q : Nat, s.heap.size ≤ q → A q := fun q h => by rw [← hAe]; exact Or.inr h
  have hS : va_S A s.heap s.heap [] := va_S.rf
  replace hP : va_P D vwCl [(ad 29, .inr (8, [.int v_mod_code, .int v_mod_steps, .ref (ad 30), .int v_mod_pipes, .ref (ad 31), .int v_mod_items, .ref (ad 32), .ref (ad 33), .ref (ad 34), .ref (ad 35), .ref (ad 36), .ref (ad 37), .ref (ad 38), .int v_mod_least, .int v_mod_most, .ref (ad 39), .ref (ad 40), .ref (ad 41), .ref (ad 42), .ref (ad 43), .ref (ad 44), .int (bI v_mod_hasPlan), .int v_mod_told, .ref (ad 45), .int v_mod_pieces, .ref (ad 46), .ref (ad 47), .ref (ad 48), .long v_mod_planWorth, .long v_mod_planCents])), (ad 30, .inl (ki 2, n_mfree, .inl v_mfree)), (ad 31, .inl (ki 0, n_mpip, .inl v_mpip)), (ad 32, .inl (ki 0, n_mwid, .inl v_mwid)), (ad 35, .inl (ki 0, n_mnee, .inl v_mnee)), (ad 43, .inl (ki 0, n_mclr, .inl v_mclr)), (ad 44, .inl (ki 2, n_mmet, .inl v_mmet))] s.heap := hP
  have hl := lv_entry ([.ref (ad 29)]) (n := 3) (Nat.le_of_ble_eq_true rfl)
  rw [lg_entry_eq]
  generalize (lg_sl ([.ref (ad 29)]) ++ List.replicate (3 - (lg_sl ([.ref (ad 29)])).length) Slot.unset).toArray = ls at hl ⊢
  replace hl : lv_has ls 3 [(0, .ref (ad 29))] := hl
  have key : ∀ n : Nat, (∀ (x1 : Int32) (v_mclr : Nat → Int32) (v_mmet : Nat → Int32), f_Model_look_cut N n_mfree n_mpip n_mwid n_mnee n_mclr n_mmet v_mod_code v_mod_steps v_mod_pipes v_mod_items v_mod_least v_mod_most v_mod_hasPlan v_mod_told v_mod_pieces v_mod_planWorth v_mod_planCents v_mfree v_mpip v_mwid v_mnee n 0 x1 0 v_mclr v_mmet = some (ov_mclr, ov_mmet) → ∀ (H : Heap) (locs : List Loc), va_P D vwCl [(ad 29, .inr (8, [.int v_mod_code, .int v_mod_steps, .ref (ad 30), .int v_mod_pipes, .ref (ad 31), .int v_mod_items, .ref (ad 32), .ref (ad 33), .ref (ad 34), .ref (ad 35), .ref (ad 36), .ref (ad 37), .ref (ad 38), .int v_mod_least, .int v_mod_most, .ref (ad 39), .ref (ad 40), .ref (ad 41), .ref (ad 42), .ref (ad 43), .ref (ad 44), .int (bI v_mod_hasPlan), .int v_mod_told, .ref (ad 45), .int v_mod_pieces, .ref (ad 46), .ref (ad 47), .ref (ad 48), .long v_mod_planWorth, .long v_mod_planCents])), (ad 30, .inl (ki 2, n_mfree, .inl v_mfree)), (ad 31, .inl (ki 0, n_mpip, .inl v_mpip)), (ad 32, .inl (ki 0, n_mwid, .inl v_mwid)), (ad 35, .inl (ki 0, n_mnee, .inl v_mnee)), (ad 43, .inl (ki 0, n_mclr, .inl v_mclr)), (ad 44, .inl (ki 2, n_mmet, .inl v_mmet))] H → va_D A [(ad 29, .inr (8, [.int v_mod_code, .int v_mod_steps, .ref (ad 30), .int v_mod_pipes, .ref (ad 31), .int v_mod_items, .ref (ad 32), .ref (ad 33), .ref (ad 34), .ref (ad 35), .ref (ad 36), .ref (ad 37), .ref (ad 38), .int v_mod_least, .int v_mod_most, .ref (ad 39), .ref (ad 40), .ref (ad 41), .ref (ad 42), .ref (ad 43), .ref (ad 44), .int (bI v_mod_hasPlan), .int v_mod_told, .ref (ad 45), .int v_mod_pieces, .ref (ad 46), .ref (ad 47), .ref (ad 48), .long v_mod_planWorth, .long v_mod_planCents])), (ad 30, .inl (ki 2, n_mfree, .inl v_mfree)), (ad 31, .inl (ki 0, n_mpip, .inl v_mpip)), (ad 32, .inl (ki 0, n_mwid, .inl v_mwid)), (ad 35, .inl (ki 0, n_mnee, .inl v_mnee)), (ad 43, .inl (ki 0, n_mclr, .inl v_mclr)), (ad 44, .inl (ki 2, n_mmet, .inl v_mmet))] → va_S A s.heap H locs → ∀ (ls : Array Slot), lv_has ls 3 [(0, .ref (ad 29)), (1, .int x1)] → W p l e (headSpec w_Model_look { frames := 1, cells := 0, slots := 0, locals := 26 }).room s m ([.ref (ad 29)] : List Value).toArray below meth c H locs 0 0 (MQ below (q_Qm (none) D vwCl [(ad 29, .inr (8, [.int v_mod_code, .int v_mod_steps, .ref (ad 30), .int v_mod_pipes, .ref (ad 31), .int v_mod_items, .ref (ad 32), .ref (ad 33), .ref (ad 34), .ref (ad 35), .ref (ad 36), .ref (ad 37), .ref (ad 38), .int v_mod_least, .int v_mod_most, .ref (ad 39), .ref (ad 40), .ref (ad 41), .ref (ad 42), .ref (ad 43), .ref (ad 44), .int (bI v_mod_hasPlan), .int v_mod_told, .ref (ad 45), .int v_mod_pieces, .ref (ad 46), .ref (ad 47), .ref (ad 48), .long v_mod_planWorth, .long v_mod_planCents])), (ad 30, .inl (ki 2, n_mfree, .inl v_mfree)), (ad 31, .inl (ki 0, n_mpip, .inl v_mpip)), (ad 32, .inl (ki 0, n_mwid, .inl v_mwid)), (ad 35, .inl (ki 0, n_mnee, .inl v_mnee)), (ad 43, .inl (ki 0, n_mclr, .inl ov_mclr)), (ad 44, .inl (ki 2, n_mmet, .inl ov_mmet))] A) ([.ref (ad 29)] : List Value).toArray s 0 0 A) (F0 m 17 ls [])) ∧ (∀ (x1 : Int32) (x2 : Int32) (v_mclr : Nat → Int32) (v_mmet : Nat → Int32), f_Model_look_cut N n_mfree n_mpip n_mwid n_mnee n_mclr n_mmet v_mod_code v_mod_steps v_mod_pipes v_mod_items v_mod_least v_mod_most v_mod_hasPlan v_mod_told v_mod_pieces v_mod_planWorth v_mod_planCents v_mfree v_mpip v_mwid v_mnee n 1 x1 x2 v_mclr v_mmet = some (ov_mclr, ov_mmet) → ∀ (H : Heap) (locs : List Loc), va_P D vwCl [(ad 29, .inr (8, [.int v_mod_code, .int v_mod_steps, .ref (ad 30), .int v_mod_pipes, .ref (ad 31), .int v_mod_items, .ref (ad 32), .ref (ad 33), .ref (ad 34), .ref (ad 35), .ref (ad 36), .ref (ad 37), .ref (ad 38), .int v_mod_least, .int v_mod_most, .ref (ad 39), .ref (ad 40), .ref (ad 41), .ref (ad 42), .ref (ad 43), .ref (ad 44), .int (bI v_mod_hasPlan), .int v_mod_told, .ref (ad 45), .int v_mod_pieces, .ref (ad 46), .ref (ad 47), .ref (ad 48), .long v_mod_planWorth, .long v_mod_planCents])), (ad 30, .inl (ki 2, n_mfree, .inl v_mfree)), (ad 31, .inl (ki 0, n_mpip, .inl v_mpip)), (ad 32, .inl (ki 0, n_mwid, .inl v_mwid)), (ad 35, .inl (ki 0, n_mnee, .inl v_mnee)), (ad 43, .inl (ki 0, n_mclr, .inl v_mclr)), (ad 44, .inl (ki 2, n_mmet, .inl v_mmet))] H → va_D A [(ad 29, .inr (8, [.int v_mod_code, .int v_mod_steps, .ref (ad 30), .int v_mod_pipes, .ref (ad 31), .int v_mod_items, .ref (ad 32), .ref (ad 33), .ref (ad 34), .ref (ad 35), .ref (ad 36), .ref (ad 37), .ref (ad 38), .int v_mod_least, .int v_mod_most, .ref (ad 39), .ref (ad 40), .ref (ad 41), .ref (ad 42), .ref (ad 43), .ref (ad 44), .int (bI v_mod_hasPlan), .int v_mod_told, .ref (ad 45), .int v_mod_pieces, .ref (ad 46), .ref (ad 47), .ref (ad 48), .long v_mod_planWorth, .long v_mod_planCents])), (ad 30, .inl (ki 2, n_mfree, .inl v_mfree)), (ad 31, .inl (ki 0, n_mpip, .inl v_mpip)), (ad 32, .inl (ki 0, n_mwid, .inl v_mwid)), (ad 35, .inl (ki 0, n_mnee, .inl v_mnee)), (ad 43, .inl (ki 0, n_mclr, .inl v_mclr)), (ad 44, .inl (ki 2, n_mmet, .inl v_mmet))] → va_S A s.heap H locs → ∀ (ls : Array Slot), lv_has ls 3 [(0, .ref (ad 29)), (1, .int x1), (2, .int x2)] → W p l e (headSpec w_Model_look { frames := 1, cells := 0, slots := 0, locals := 26 }).room s m ([.ref (ad 29)] : List Value).toArray below meth c H locs 0 0 (MQ below (q_Qm (none) D vwCl [(ad 29, .inr (8, [.int v_mod_code, .int v_mod_steps, .ref (ad 30), .int v_mod_pipes, .ref (ad 31), .int v_mod_items, .ref (ad 32), .ref (ad 33), .ref (ad 34), .ref (ad 35), .ref (ad 36), .ref (ad 37), .ref (ad 38), .int v_mod_least, .int v_mod_most, .ref (ad 39), .ref (ad 40), .ref (ad 41), .ref (ad 42), .ref (ad 43), .ref (ad 44), .int (bI v_mod_hasPlan), .int v_mod_told, .ref (ad 45), .int v_mod_pieces, .ref (ad 46), .ref (ad 47), .ref (ad 48), .long v_mod_planWorth, .long v_mod_planCents])), (ad 30, .inl (ki 2, n_mfree, .inl v_mfree)), (ad 31, .inl (ki 0, n_mpip, .inl v_mpip)), (ad 32, .inl (ki 0, n_mwid, .inl v_mwid)), (ad 35, .inl (ki 0, n_mnee, .inl v_mnee)), (ad 43, .inl (ki 0, n_mclr, .inl ov_mclr)), (ad 44, .inl (ki 2, n_mmet, .inl ov_mmet))] A) ([.ref (ad 29)] : List Value).toArray s 0 0 A) (F0 m 52 ls [])) := by
    intro n
    induction n with
    | zero =>
      exact ⟨fun x1 v_mclr v_mmet hf => (nomatch (show none = some _ from hf)), fun x1 x2 v_mclr v_mmet hf => (nomatch (show none = some _ from hf))⟩
    | succ n ih =>
      refine ⟨?_, ?_⟩
      · intro x1 v_mclr v_mmet hf H locs hP hD hS ls hl
        rw [f_Model_look_cut_0] at hf
        refine lv_iload_n hx hb d_Model_look_17 rfl (lv_at hl 1 rfl) ?_
        refine lv_if_lt (tgt := 89) hx hb d_Model_look_18 (by decide) (fun c_1 => ?_) (fun c_1 => ?_)
        · replace hf := q_it hf c_1
          cases hf
          exact W.vret hx hb hr (fun t ht hW => ⟨rfl, by rw [ht]; exact hP, hS.F ht⟩) hS.2.2 d_Model_look_89
        replace hf := q_ie hf c_1
        refine lv_aload_n hx hb d_Model_look_21 rfl (lv_at hl 0 rfl) ?_
        refine va_get (D := D) (ci := 8) (v := .ref (ad 43)) (C := R_Model) (T := F_Model) (N := 30) hx hb hts hn_Model hown hK hP 0 rfl rfl 19 (by decide) hL51 (fun _ h9 => h9) rfl d_Model_look_22 ?_
        refine lv_iload_n hx hb d_Model_look_25 rfl (lv_at hl 1 rfl) ?_
        refine lv_aload_n hx hb d_Model_look_26 rfl (lv_at hl 0 rfl) ?_
        refine va_get (D := D) (ci := 8) (v := .ref (ad 30)) (C := R_Model) (T := F_Model) (N := 30) hx hb hts hn_Model hown hK hP 0 rfl rfl 2 (by decide) hL7 (fun _ h9 => h9) rfl d_Model_look_27 ?_
        refine lv_iload_n hx hb d_Model_look_30 rfl (lv_at hl 1 rfl) ?_
        obtain ⟨hi_2, hf⟩ := q_ck hf
        refine va_zald hx hb hK hP 1 2 rfl rfl hi_2 d_Model_look_31 ?_
        refine lv_if_eq (tgt := 39) hx hb d_Model_look_32 (by decide) (fun c_3 => ?_) (fun c_3 => ?_)
        · replace hf := q_it hf c_3
          refine lv_aload_n hx hb d_Model_look_39 rfl (lv_at hl 0 rfl) ?_
          refine va_get (D := D) (ci := 8) (v := .ref (ad 43)) (C := R_Model) (T := F_Model) (N := 30) hx hb hts hn_Model hown hK hP 0 rfl rfl 19 (by decide) hL51 (fun _ h9 => h9) rfl d_Model_look_40 ?_
          refine lv_iload_n hx hb d_Model_look_43 rfl (lv_at hl 1 rfl) ?_
          refine lv_iconst (v := 1) hx hb d_Model_look_44 (by decide) ?_
          refine lv_iadd hx hb d_Model_look_45 ?_
          obtain ⟨hi_4, hf⟩ := q_ck hf
          refine va_iald hx hb hK hP 5 0 rfl rfl hi_4 d_Model_look_46 ?_
          refine lv_iconst (v := 1) hx hb d_Model_look_47 (by decide) ?_
          refine lv_iadd hx hb d_Model_look_48 ?_
          obtain ⟨hi_5, hf⟩ := q_ck hf
          refine va_iast hx hb hK hP hD hS 5 0 rfl rfl hi_5 d_Model_look_49 (fun H locs hP hD hS => ?_)
          replace hP : va_P D vwCl [(ad 29, .inr (8, [.int v_mod_code, .int v_mod_steps, .ref (ad 30), .int v_mod_pipes, .ref (ad 31), .int v_mod_items, .ref (ad 32), .ref (ad 33), .ref (ad 34), .ref (ad 35), .ref (ad 36), .ref (ad 37), .ref (ad 38), .int v_mod_least, .int v_mod_most, .ref (ad 39), .ref (ad 40), .ref (ad 41), .ref (ad 42), .ref (ad 43), .ref (ad 44), .int (bI v_mod_hasPlan), .int v_mod_told, .ref (ad 45), .int v_mod_pieces, .ref (ad 46), .ref (ad 47), .ref (ad 48), .long v_mod_planWorth, .long v_mod_planCents])), (ad 30, .inl (ki 2, n_mfree, .inl v_mfree)), (ad 31, .inl (ki 0, n_mpip, .inl v_mpip)), (ad 32, .inl (ki 0, n_mwid, .inl v_mwid)), (ad 35, .inl (ki 0, n_mnee, .inl v_mnee)), (ad 43, .inl (ki 0, n_mclr, .inl (upd v_mclr (Int32.toNatClampNeg x1) ((v_mclr (Int32.toNatClampNeg (x1 + 1))) + 1)))), (ad 44, .inl (ki 2, n_mmet, .inl v_mmet))] H := hP
          replace hD : va_D A [(ad 29, .inr (8, [.int v_mod_code, .int v_mod_steps, .ref (ad 30), .int v_mod_pipes, .ref (ad 31), .int v_mod_items, .ref (ad 32), .ref (ad 33), .ref (ad 34), .ref (ad 35), .ref (ad 36), .ref (ad 37), .ref (ad 38), .int v_mod_least, .int v_mod_most, .ref (ad 39), .ref (ad 40), .ref (ad 41), .ref (ad 42), .ref (ad 43), .ref (ad 44), .int (bI v_mod_hasPlan), .int v_mod_told, .ref (ad 45), .int v_mod_pieces, .ref (ad 46), .ref (ad 47), .ref (ad 48), .long v_mod_planWorth, .long v_mod_planCents])), (ad 30, .inl (ki 2, n_mfree, .inl v_mfree)), (ad 31, .inl (ki 0, n_mpip, .inl v_mpip)), (ad 32, .inl (ki 0, n_mwid, .inl v_mwid)), (ad 35, .inl (ki 0, n_mnee, .inl v_mnee)), (ad 43, .inl (ki 0, n_mclr, .inl (upd v_mclr (Int32.toNatClampNeg x1) ((v_mclr (Int32.toNatClampNeg (x1 + 1))) + 1)))), (ad 44, .inl (ki 2, n_mmet, .inl v_mmet))] := hD
          refine lv_iconst (v := 0) hx hb d_Model_look_50 (by decide) ?_
          refine lv_istore_n (lv' := [(2, .int 0), (0, .ref (ad 29)), (1, .int x1)]) hx hb d_Model_look_51 rfl hl (by decide) rfl (fun ls hl => ?_)
          exact (ih).2 x1 0 (upd v_mclr (Int32.toNatClampNeg x1) ((v_mclr (Int32.toNatClampNeg (x1 + 1))) + 1)) v_mmet hf _ _ hP hD hS ls (lv_sub hl [1, 2, 0] rfl)
        replace hf := q_ie hf c_3
        refine lv_iconst (v := 0) hx hb d_Model_look_35 (by decide) ?_
        refine lv_goto (tgt := 49) hx hb d_Model_look_36 (by decide) ?_
        obtain ⟨hi_6, hf⟩ := q_ck hf
        refine va_iast hx hb hK hP hD hS 5 0 rfl rfl hi_6 d_Model_look_49 (fun H locs hP hD hS => ?_)
        replace hP : va_P D vwCl [(ad 29, .inr (8, [.int v_mod_code, .int v_mod_steps, .ref (ad 30), .int v_mod_pipes, .ref (ad 31), .int v_mod_items, .ref (ad 32), .ref (ad 33), .ref (ad 34), .ref (ad 35), .ref (ad 36), .ref (ad 37), .ref (ad 38), .int v_mod_least, .int v_mod_most, .ref (ad 39), .ref (ad 40), .ref (ad 41), .ref (ad 42), .ref (ad 43), .ref (ad 44), .int (bI v_mod_hasPlan), .int v_mod_told, .ref (ad 45), .int v_mod_pieces, .ref (ad 46), .ref (ad 47), .ref (ad 48), .long v_mod_planWorth, .long v_mod_planCents])), (ad 30, .inl (ki 2, n_mfree, .inl v_mfree)), (ad 31, .inl (ki 0, n_mpip, .inl v_mpip)), (ad 32, .inl (ki 0, n_mwid, .inl v_mwid)), (ad 35, .inl (ki 0, n_mnee, .inl v_mnee)), (ad 43, .inl (ki 0, n_mclr, .inl (upd v_mclr (Int32.toNatClampNeg x1) 0))), (ad 44, .inl (ki 2, n_mmet, .inl v_mmet))] H := hP
        replace hD : va_D A [(ad 29, .inr (8, [.int v_mod_code, .int v_mod_steps, .ref (ad 30), .int v_mod_pipes, .ref (ad 31), .int v_mod_items, .ref (ad 32), .ref (ad 33), .ref (ad 34), .ref (ad 35), .ref (ad 36), .ref (ad 37), .ref (ad 38), .int v_mod_least, .int v_mod_most, .ref (ad 39), .ref (ad 40), .ref (ad 41), .ref (ad 42), .ref (ad 43), .ref (ad 44), .int (bI v_mod_hasPlan), .int v_mod_told, .ref (ad 45), .int v_mod_pieces, .ref (ad 46), .ref (ad 47), .ref (ad 48), .long v_mod_planWorth, .long v_mod_planCents])), (ad 30, .inl (ki 2, n_mfree, .inl v_mfree)), (ad 31, .inl (ki 0, n_mpip, .inl v_mpip)), (ad 32, .inl (ki 0, n_mwid, .inl v_mwid)), (ad 35, .inl (ki 0, n_mnee, .inl v_mnee)), (ad 43, .inl (ki 0, n_mclr, .inl (upd v_mclr (Int32.toNatClampNeg x1) 0))), (ad 44, .inl (ki 2, n_mmet, .inl v_mmet))] := hD
        refine lv_iconst (v := 0) hx hb d_Model_look_50 (by decide) ?_
        refine lv_istore_n (lv' := [(2, .int 0), (0, .ref (ad 29)), (1, .int x1)]) hx hb d_Model_look_51 rfl hl (by decide) rfl (fun ls hl => ?_)
        exact (ih).2 x1 0 (upd v_mclr (Int32.toNatClampNeg x1) 0) v_mmet hf _ _ hP hD hS ls (lv_sub hl [1, 2, 0] rfl)
      · intro x1 x2 v_mclr v_mmet hf H locs hP hD hS ls hl
        rw [f_Model_look_cut_1] at hf
        refine lv_iload_n hx hb d_Model_look_52 rfl (lv_at hl 2 rfl) ?_
        refine lv_aload_n hx hb d_Model_look_53 rfl (lv_at hl 0 rfl) ?_
        refine va_get (D := D) (ci := 8) (v := .int v_mod_items) (C := R_Model) (T := F_Model) (N := 30) hx hb hts hn_Model hown hK hP 0 rfl rfl 5 (by decide) hL97 (fun _ h9 => h9) rfl d_Model_look_54 ?_
        refine lv_icmp_ge (tgt := 83) hx hb d_Model_look_57 (by decide) (fun c_7 => ?_) (fun c_7 => ?_)
        · replace hf := q_it hf c_7
          refine lv_iinc (v := (x1 + (-1))) (lv' := [(1, .int (x1 + (-1))), (0, .ref (ad 29)), (2, .int x2)]) hx hb d_Model_look_83 hl (k := 1) rfl rfl (by decide) rfl (fun ls hl => ?_)
          refine lv_goto (tgt := 17) hx hb d_Model_look_86 (by decide) ?_
          exact (ih).1 (x1 + (-1)) v_mclr v_mmet hf _ _ hP hD hS ls (lv_sub hl [1, 0] rfl)
        replace hf := q_ie hf c_7
        refine lv_aload_n hx hb d_Model_look_60 rfl (lv_at hl 0 rfl) ?_
        refine va_get (D := D) (ci := 8) (v := .ref (ad 44)) (C := R_Model) (T := F_Model) (N := 30) hx hb hts hn_Model hown hK hP 0 rfl rfl 20 (by decide) hL54 (fun _ h9 => h9) rfl d_Model_look_61 ?_
        refine lv_bipush (v := 41) hx hb d_Model_look_64 (by decide) ?_
        refine lv_iload_n hx hb d_Model_look_66 rfl (lv_at hl 2 rfl) ?_
        refine lv_imul hx hb d_Model_look_67 ?_
        refine lv_iload_n hx hb d_Model_look_68 rfl (lv_at hl 1 rfl) ?_
        refine lv_iadd hx hb d_Model_look_69 ?_
        refine lv_aload_n hx hb d_Model_look_70 rfl (lv_at hl 0 rfl) ?_
        refine lv_iload_n hx hb d_Model_look_71 rfl (lv_at hl 2 rfl) ?_
        refine lv_iload_n hx hb d_Model_look_72 rfl (lv_at hl 1 rfl) ?_
        obtain ⟨r_8, hc_8, hf⟩ := q_mb hf
        refine q_pcall (W.runV (As := [.int x2, .int x1]) (rest := [.int ((41 * x2) + x1), .ref (ad 44)]) ⟨hx, hb, hml, hown, hts⟩ (c_Model_isNeeded l D ad ki n_mpip n_mwid n_mnee v_mod_code v_mod_steps v_mod_pipes v_mod_items v_mod_least v_mod_most v_mod_hasPlan v_mod_told v_mod_pieces v_mod_planWorth v_mod_planCents v_mpip v_mwid v_mnee x2 x1 N r_8 hc_8) (cwV 2 hts (q_goodV ⟨m_1008, m_1010, m_37, m_64⟩ m_1011) rfl rfl rfl (by decide +kernel) ⟨Nat.le_of_ble_eq_true rfl, Nat.le_of_ble_eq_true rfl⟩) (q_preVP (wc := [(ad 29, .inr (8, [.int v_mod_code, .int v_mod_steps, .ref (ad 30), .int v_mod_pipes, .ref (ad 31), .int v_mod_items, .ref (ad 32), .ref (ad 33), .ref (ad 34), .ref (ad 35), .ref (ad 36), .ref (ad 37), .ref (ad 38), .int v_mod_least, .int v_mod_most, .ref (ad 39), .ref (ad 40), .ref (ad 41), .ref (ad 42), .ref (ad 43), .ref (ad 44), .int (bI v_mod_hasPlan), .int v_mod_told, .ref (ad 45), .int v_mod_pieces, .ref (ad 46), .ref (ad 47), .ref (ad 48), .long v_mod_planWorth, .long v_mod_planCents])), (ad 31, .inl (ki 0, n_mpip, .inl v_mpip)), (ad 32, .inl (ki 0, n_mwid, .inl v_mwid)), (ad 35, .inl (ki 0, n_mnee, .inl v_mnee))]) hE hK hP [0, 2, 3, 4] rfl 0 8 rfl rfl) rfl rfl hl.1 rfl (lv_room (Nat.le_of_ble_eq_true rfl)) d_Model_look_73 ⟨Nat.le_of_ble_eq_true rfl, Nat.le_of_ble_eq_true rfl⟩) ?_
        obtain ⟨hi_9, hf⟩ := q_ck hf
        refine va_zast hx hb hK hP hD hS 6 2 rfl rfl hi_9 d_Model_look_76 (fun H locs hP hD hS => ?_)
        replace hP : va_P D vwCl [(ad 29, .inr (8, [.int v_mod_code, .int v_mod_steps, .ref (ad 30), .int v_mod_pipes, .ref (ad 31), .int v_mod_items, .ref (ad 32), .ref (ad 33), .ref (ad 34), .ref (ad 35), .ref (ad 36), .ref (ad 37), .ref (ad 38), .int v_mod_least, .int v_mod_most, .ref (ad 39), .ref (ad 40), .ref (ad 41), .ref (ad 42), .ref (ad 43), .ref (ad 44), .int (bI v_mod_hasPlan), .int v_mod_told, .ref (ad 45), .int v_mod_pieces, .ref (ad 46), .ref (ad 47), .ref (ad 48), .long v_mod_planWorth, .long v_mod_planCents])), (ad 30, .inl (ki 2, n_mfree, .inl v_mfree)), (ad 31, .inl (ki 0, n_mpip, .inl v_mpip)), (ad 32, .inl (ki 0, n_mwid, .inl v_mwid)), (ad 35, .inl (ki 0, n_mnee, .inl v_mnee)), (ad 43, .inl (ki 0, n_mclr, .inl v_mclr)), (ad 44, .inl (ki 2, n_mmet, .inl (upd v_mmet (Int32.toNatClampNeg ((41 * x2) + x1)) (vp_nar .boolean (bI r_8)))))] H := hP
        replace hD : va_D A [(ad 29, .inr (8, [.int v_mod_code, .int v_mod_steps, .ref (ad 30), .int v_mod_pipes, .ref (ad 31), .int v_mod_items, .ref (ad 32), .ref (ad 33), .ref (ad 34), .ref (ad 35), .ref (ad 36), .ref (ad 37), .ref (ad 38), .int v_mod_least, .int v_mod_most, .ref (ad 39), .ref (ad 40), .ref (ad 41), .ref (ad 42), .ref (ad 43), .ref (ad 44), .int (bI v_mod_hasPlan), .int v_mod_told, .ref (ad 45), .int v_mod_pieces, .ref (ad 46), .ref (ad 47), .ref (ad 48), .long v_mod_planWorth, .long v_mod_planCents])), (ad 30, .inl (ki 2, n_mfree, .inl v_mfree)), (ad 31, .inl (ki 0, n_mpip, .inl v_mpip)), (ad 32, .inl (ki 0, n_mwid, .inl v_mwid)), (ad 35, .inl (ki 0, n_mnee, .inl v_mnee)), (ad 43, .inl (ki 0, n_mclr, .inl v_mclr)), (ad 44, .inl (ki 2, n_mmet, .inl (upd v_mmet (Int32.toNatClampNeg ((41 * x2) + x1)) (vp_nar .boolean (bI r_8)))))] := hD
        refine lv_iinc (v := (x2 + 1)) (lv' := [(2, .int (x2 + 1)), (0, .ref (ad 29)), (1, .int x1)]) hx hb d_Model_look_77 hl (k := 2) rfl rfl (by decide) rfl (fun ls hl => ?_)
        refine lv_goto (tgt := 52) hx hb d_Model_look_80 (by decide) ?_
        exact (ih).2 x1 (x2 + 1) v_mclr (upd v_mmet (Int32.toNatClampNeg ((41 * x2) + x1)) (vp_nar .boolean (bI r_8))) hf _ _ hP hD hS ls (lv_sub hl [1, 2, 0] rfl)
  unfold f_Model_look at hf
  refine lv_aload_n hx hb d_Model_look_0 rfl (lv_at hl 0 rfl) ?_
  refine va_get (D := D) (ci := 8) (v := .ref (ad 43)) (C := R_Model) (T := F_Model) (N := 30) hx hb hts hn_Model hown hK hP 0 rfl rfl 19 (by decide) hL51 (fun _ h9 => h9) rfl d_Model_look_1 ?_
  refine lv_aload_n hx hb d_Model_look_4 rfl (lv_at hl 0 rfl) ?_
  refine va_get (D := D) (ci := 8) (v := .int v_mod_steps) (C := R_Model) (T := F_Model) (N := 30) hx hb hts hn_Model hown hK hP 0 rfl rfl 1 (by decide) hL69 (fun _ h9 => h9) rfl d_Model_look_5 ?_
  refine lv_iconst (v := 0) hx hb d_Model_look_8 (by decide) ?_
  obtain ⟨hi_10, hf⟩ := q_ck hf
  refine va_iast hx hb hK hP hD hS 5 0 rfl rfl hi_10 d_Model_look_9 (fun H locs hP hD hS => ?_)
  replace hP : va_P D vwCl [(ad 29, .inr (8, [.int v_mod_code, .int v_mod_steps, .ref (ad 30), .int v_mod_pipes, .ref (ad 31), .int v_mod_items, .ref (ad 32), .ref (ad 33), .ref (ad 34), .ref (ad 35), .ref (ad 36), .ref (ad 37), .ref (ad 38), .int v_mod_least, .int v_mod_most, .ref (ad 39), .ref (ad 40), .ref (ad 41), .ref (ad 42), .ref (ad 43), .ref (ad 44), .int (bI v_mod_hasPlan), .int v_mod_told, .ref (ad 45), .int v_mod_pieces, .ref (ad 46), .ref (ad 47), .ref (ad 48), .long v_mod_planWorth, .long v_mod_planCents])), (ad 30, .inl (ki 2, n_mfree, .inl v_mfree)), (ad 31, .inl (ki 0, n_mpip, .inl v_mpip)), (ad 32, .inl (ki 0, n_mwid, .inl v_mwid)), (ad 35, .inl (ki 0, n_mnee, .inl v_mnee)), (ad 43, .inl (ki 0, n_mclr, .inl (upd v_mclr (Int32.toNatClampNeg v_mod_steps) 0))), (ad 44, .inl (ki 2, n_mmet, .inl v_mmet))] H := hP
  replace hD : va_D A [(ad 29, .inr (8, [.int v_mod_code, .int v_mod_steps, .ref (ad 30), .int v_mod_pipes, .ref (ad 31), .int v_mod_items, .ref (ad 32), .ref (ad 33), .ref (ad 34), .ref (ad 35), .ref (ad 36), .ref (ad 37), .ref (ad 38), .int v_mod_least, .int v_mod_most, .ref (ad 39), .ref (ad 40), .ref (ad 41), .ref (ad 42), .ref (ad 43), .ref (ad 44), .int (bI v_mod_hasPlan), .int v_mod_told, .ref (ad 45), .int v_mod_pieces, .ref (ad 46), .ref (ad 47), .ref (ad 48), .long v_mod_planWorth, .long v_mod_planCents])), (ad 30, .inl (ki 2, n_mfree, .inl v_mfree)), (ad 31, .inl (ki 0, n_mpip, .inl v_mpip)), (ad 32, .inl (ki 0, n_mwid, .inl v_mwid)), (ad 35, .inl (ki 0, n_mnee, .inl v_mnee)), (ad 43, .inl (ki 0, n_mclr, .inl (upd v_mclr (Int32.toNatClampNeg v_mod_steps) 0))), (ad 44, .inl (ki 2, n_mmet, .inl v_mmet))] := hD
  refine lv_aload_n hx hb d_Model_look_10 rfl (lv_at hl 0 rfl) ?_
  refine va_get (D := D) (ci := 8) (v := .int v_mod_steps) (C := R_Model) (T := F_Model) (N := 30) hx hb hts hn_Model hown hK hP 0 rfl rfl 1 (by decide) hL69 (fun _ h9 => h9) rfl d_Model_look_11 ?_
  refine lv_iconst (v := 1) hx hb d_Model_look_14 (by decide) ?_
  refine lv_isub hx hb d_Model_look_15 ?_
  refine lv_istore_n (lv' := [(1, .int (v_mod_steps - 1)), (0, .ref (ad 29))]) hx hb d_Model_look_16 rfl hl (by decide) rfl (fun ls hl => ?_)
  exact (key N).1 (v_mod_steps - 1) (upd v_mclr (Int32.toNatClampNeg v_mod_steps) 0) v_mmet hf _ _ hP hD hS ls (lv_sub hl [1, 0] rfl)
def f_Model_mayStand (N : Nat) (n_mwid : Nat) (n_mbar : Nat) (n_mclr : Nat) (n_mmet : Nat) (v_mod_code : Int32) (v_mod_steps : Int32) (v_mod_pipes : Int32) (v_mod_items : Int32) (v_mod_least : Int32) (v_mod_most : Int32) (v_mod_hasPlan : Bool) (v_mod_told : Int32) (v_mod_pieces : Int32) (v_mod_planWorth : Int64) (v_mod_planCents : Int64) (v_mwid : Nat → Int32) (v_mbar : Nat → Int32) (v_mclr : Nat → Int32) (v_mmet : Nat → Int32) (p1 : Int32) (p2 : Int32) (p3 : Int32) (p4 : Int32) : Option (Bool) := (if ((p4 >>> (p1 &&& 31)) &&& 1) = 0 then (if p1 < 0 ∨ n_mwid ≤ Int32.toNatClampNeg p1 then none else (Option.bind (f_Model_isClear N n_mclr v_mod_code v_mod_steps v_mod_pipes v_mod_items v_mod_least v_mod_most v_mod_hasPlan v_mod_told v_mod_pieces v_mod_planWorth v_mod_planCents v_mclr p2 (v_mwid (Int32.toNatClampNeg p1))) (fun r_3 => (if r_3 = true then (if ((41 * p1) + p2) < 0 ∨ n_mmet ≤ Int32.toNatClampNeg ((41 * p1) + p2) then none else (if (v_mmet (Int32.toNatClampNeg ((41 * p1) + p2))) = 0 then (some false) else (if (6 : Int32) ≤ p3 then (some true) else (if ((6 * p3) + p1) < 0 ∨ n_mbar ≤ Int32.toNatClampNeg ((6 * p3) + p1) then none else (if (v_mbar (Int32.toNatClampNeg ((6 * p3) + p1))) = 0 then (some true) else (some false)))))) else (some false))))) else (some false))
set_option maxRecDepth 100000 in
set_option maxHeartbeats 4000000 in
theorem c_Model_mayStand (l : Launch) (D : va_G) (ad : Nat → Nat) (ki : Nat → ClassId) (n_mwid : Nat) (n_mbar : Nat) (n_mclr : Nat) (n_mmet : Nat) (v_mod_code : Int32) (v_mod_steps : Int32) (v_mod_pipes : Int32) (v_mod_items : Int32) (v_mod_least : Int32) (v_mod_most : Int32) (v_mod_hasPlan : Bool) (v_mod_told : Int32) (v_mod_pieces : Int32) (v_mod_planWorth : Int64) (v_mod_planCents : Int64) (v_mwid : Nat → Int32) (v_mbar : Nat → Int32) (v_mclr : Nat → Int32) (v_mmet : Nat → Int32) (p1 : Int32) (p2 : Int32) (p3 : Int32) (p4 : Int32) (N : Nat) (r : Bool) (hf : f_Model_mayStand N n_mwid n_mbar n_mclr n_mmet v_mod_code v_mod_steps v_mod_pipes v_mod_items v_mod_least v_mod_most v_mod_hasPlan v_mod_told v_mod_pieces v_mod_planWorth v_mod_planCents v_mwid v_mbar v_mclr v_mmet p1 p2 p3 p4 = some r) : Met l y_Model_mayStand w_Model_mayStand { frames := 1, cells := 0, slots := 0, locals := 22 } (q_PcP [.ref (ad 29), .int p1, .int p2, .int p3, .int p4] D vwCl [(ad 29, .inr (8, [.int v_mod_code, .int v_mod_steps, .ref (ad 30), .int v_mod_pipes, .ref (ad 31), .int v_mod_items, .ref (ad 32), .ref (ad 33), .ref (ad 34), .ref (ad 35), .ref (ad 36), .ref (ad 37), .ref (ad 38), .int v_mod_least, .int v_mod_most, .ref (ad 39), .ref (ad 40), .ref (ad 41), .ref (ad 42), .ref (ad 43), .ref (ad 44), .int (bI v_mod_hasPlan), .int v_mod_told, .ref (ad 45), .int v_mod_pieces, .ref (ad 46), .ref (ad 47), .ref (ad 48), .long v_mod_planWorth, .long v_mod_planCents])), (ad 32, .inl (ki 0, n_mwid, .inl v_mwid)), (ad 38, .inl (ki 2, n_mbar, .inl v_mbar)), (ad 43, .inl (ki 0, n_mclr, .inl v_mclr)), (ad 44, .inl (ki 2, n_mmet, .inl v_mmet))] (TYS ki)) (k2_QcV (.int (bI r))) 0 0 (fun _ => False) := by
  refine Met.ofW (cc := b_Model_mayStand) (maxL := 5) (ret := (some .boolean)) (by decide) rfl ?_
  intro p e s m args below meth c s₁ B hml hv
  obtain ⟨rfl, hP, hK, hE⟩ := hv
  have hx := B.exec
  have hb := B.bytes
  have hr := B.returns
  have hts := atoms_spec (ws := w_Model_mayStand) B.pre
  have hown : s.vm.findClass R_Model = some m.cls := findClass_of_methodNamed B.named
  have hlocks := B.notSynchronized
  have hn_Model : ∀ w ∈ u_ws R_Model F_Model 30, w ∈ w_Model_mayStand := (fun w h => List.mem_cons_of_mem _ (i_Model w h))
  have hL17 := hts (.fieldLink R_Model 17 "RoomFillsModel" "widths" "[I") (List.mem_cons_of_mem _ m_849)
  have hL36 := hts (.fieldLink R_Model 36 "RoomFillsModel" "bars" "[Z") (List.mem_cons_of_mem _ m_855)
  have hL54 := hts (.fieldLink R_Model 54 "RoomFillsModel" "met" "[Z") (List.mem_cons_of_mem _ m_863)
  replace hP : va_P D vwCl [(ad 29, .inr (8, [.int v_mod_code, .int v_mod_steps, .ref (ad 30), .int v_mod_pipes, .ref (ad 31), .int v_mod_items, .ref (ad 32), .ref (ad 33), .ref (ad 34), .ref (ad 35), .ref (ad 36), .ref (ad 37), .ref (ad 38), .int v_mod_least, .int v_mod_most, .ref (ad 39), .ref (ad 40), .ref (ad 41), .ref (ad 42), .ref (ad 43), .ref (ad 44), .int (bI v_mod_hasPlan), .int v_mod_told, .ref (ad 45), .int v_mod_pieces, .ref (ad 46), .ref (ad 47), .ref (ad 48), .long v_mod_planWorth, .long v_mod_planCents])), (ad 32, .inl (ki 0, n_mwid, .inl v_mwid)), (ad 38, .inl (ki 2, n_mbar, .inl v_mbar)), (ad 43, .inl (ki 0, n_mclr, .inl v_mclr)), (ad 44, .inl (ki 2, n_mmet, .inl v_mmet))] s.heap := hP
  have hl := lv_entry ([.ref (ad 29), .int p1, .int p2, .int p3, .int p4]) (n := 5) (Nat.le_of_ble_eq_true rfl)
  rw [lg_entry_eq]
  generalize (lg_sl ([.ref (ad 29), .int p1, .int p2, .int p3, .int p4]) ++ List.replicate (5 - (lg_sl ([.ref (ad 29), .int p1, .int p2, .int p3, .int p4])).length) Slot.unset).toArray = ls at hl ⊢
  replace hl : lv_has ls 5 [(0, .ref (ad 29)), (1, .int p1), (2, .int p2), (3, .int p3), (4, .int p4)] := hl
  unfold f_Model_mayStand at hf
  refine lv_iload hx hb d_Model_mayStand_0 (lv_at hl 4 rfl) ?_
  refine lv_iload_n hx hb d_Model_mayStand_2 rfl (lv_at hl 1 rfl) ?_
  refine lv_ishr hx hb d_Model_mayStand_3 ?_
  refine lv_iconst (v := 1) hx hb d_Model_mayStand_4 (by decide) ?_
  refine lv_iand hx hb d_Model_mayStand_5 ?_
  refine lv_if_ne (tgt := 61) hx hb d_Model_mayStand_6 (by decide) (fun c_1 => ?_) (fun c_1 => ?_)
  · replace hf := q_ie hf c_1
    refine lv_iconst (v := 0) hx hb d_Model_mayStand_61 (by decide) ?_
    cases hf
    exact W.zret (v := bI false) hx hb hr (bI_nar _) (fun t ht hW => ⟨rfl, ht⟩) (fun q h => nomatch h) d_Model_mayStand_62
  replace hf := q_it hf c_1
  refine lv_aload_n hx hb d_Model_mayStand_9 rfl (lv_at hl 0 rfl) ?_
  refine lv_iload_n hx hb d_Model_mayStand_10 rfl (lv_at hl 2 rfl) ?_
  refine lv_aload_n hx hb d_Model_mayStand_11 rfl (lv_at hl 0 rfl) ?_
  refine va_get (D := D) (ci := 8) (v := .ref (ad 32)) (C := R_Model) (T := F_Model) (N := 30) hx hb hts hn_Model hown hK hP 0 rfl rfl 6 (by decide) hL17 (fun _ h9 => h9) rfl d_Model_mayStand_12 ?_
  refine lv_iload_n hx hb d_Model_mayStand_15 rfl (lv_at hl 1 rfl) ?_
  obtain ⟨hi_2, hf⟩ := q_ck hf
  refine va_iald hx hb hK hP 1 0 rfl rfl hi_2 d_Model_mayStand_16 ?_
  obtain ⟨r_3, hc_3, hf⟩ := q_mb hf
  refine q_pcall (W.runV (As := [.int p2, .int (v_mwid (Int32.toNatClampNeg p1))]) (rest := []) ⟨hx, hb, hml, hown, hts⟩ (c_Model_isClear l D ad ki n_mclr v_mod_code v_mod_steps v_mod_pipes v_mod_items v_mod_least v_mod_most v_mod_hasPlan v_mod_told v_mod_pieces v_mod_planWorth v_mod_planCents v_mclr p2 (v_mwid (Int32.toNatClampNeg p1)) N r_3 hc_3) (cwV 2 hts (q_goodV ⟨m_1031, m_1033, m_42, m_64⟩ m_1034) rfl rfl rfl (by decide +kernel) ⟨Nat.le_of_ble_eq_true rfl, Nat.le_of_ble_eq_true rfl⟩) (q_preVP (wc := [(ad 29, .inr (8, [.int v_mod_code, .int v_mod_steps, .ref (ad 30), .int v_mod_pipes, .ref (ad 31), .int v_mod_items, .ref (ad 32), .ref (ad 33), .ref (ad 34), .ref (ad 35), .ref (ad 36), .ref (ad 37), .ref (ad 38), .int v_mod_least, .int v_mod_most, .ref (ad 39), .ref (ad 40), .ref (ad 41), .ref (ad 42), .ref (ad 43), .ref (ad 44), .int (bI v_mod_hasPlan), .int v_mod_told, .ref (ad 45), .int v_mod_pieces, .ref (ad 46), .ref (ad 47), .ref (ad 48), .long v_mod_planWorth, .long v_mod_planCents])), (ad 43, .inl (ki 0, n_mclr, .inl v_mclr))]) hE hK hP [0, 3] rfl 0 8 rfl rfl) rfl rfl hl.1 rfl (lv_room (Nat.le_of_ble_eq_true rfl)) d_Model_mayStand_17 ⟨Nat.le_of_ble_eq_true rfl, Nat.le_of_ble_eq_true rfl⟩) ?_
  refine zv_eq (tgt := 61) hx hb d_Model_mayStand_20 (by decide) (fun c_4 => ?_) (fun c_4 => ?_)
  · replace hf := q_ie hf c_4
    refine lv_iconst (v := 0) hx hb d_Model_mayStand_61 (by decide) ?_
    cases hf
    exact W.zret (v := bI false) hx hb hr (bI_nar _) (fun t ht hW => ⟨rfl, ht⟩) (fun q h => nomatch h) d_Model_mayStand_62
  replace hf := q_it hf c_4
  refine lv_aload_n hx hb d_Model_mayStand_23 rfl (lv_at hl 0 rfl) ?_
  refine va_get (D := D) (ci := 8) (v := .ref (ad 44)) (C := R_Model) (T := F_Model) (N := 30) hx hb hts hn_Model hown hK hP 0 rfl rfl 20 (by decide) hL54 (fun _ h9 => h9) rfl d_Model_mayStand_24 ?_
  refine lv_bipush (v := 41) hx hb d_Model_mayStand_27 (by decide) ?_
  refine lv_iload_n hx hb d_Model_mayStand_29 rfl (lv_at hl 1 rfl) ?_
  refine lv_imul hx hb d_Model_mayStand_30 ?_
  refine lv_iload_n hx hb d_Model_mayStand_31 rfl (lv_at hl 2 rfl) ?_
  refine lv_iadd hx hb d_Model_mayStand_32 ?_
  obtain ⟨hi_5, hf⟩ := q_ck hf
  refine va_zald hx hb hK hP 4 2 rfl rfl hi_5 d_Model_mayStand_33 ?_
  refine lv_if_eq (tgt := 61) hx hb d_Model_mayStand_34 (by decide) (fun c_6 => ?_) (fun c_6 => ?_)
  · replace hf := q_it hf c_6
    refine lv_iconst (v := 0) hx hb d_Model_mayStand_61 (by decide) ?_
    cases hf
    exact W.zret (v := bI false) hx hb hr (bI_nar _) (fun t ht hW => ⟨rfl, ht⟩) (fun q h => nomatch h) d_Model_mayStand_62
  replace hf := q_ie hf c_6
  refine lv_iload_n hx hb d_Model_mayStand_37 rfl (lv_at hl 3 rfl) ?_
  refine lv_bipush (v := 6) hx hb d_Model_mayStand_38 (by decide) ?_
  refine lv_icmp_ge (tgt := 57) hx hb d_Model_mayStand_40 (by decide) (fun c_7 => ?_) (fun c_7 => ?_)
  · replace hf := q_it hf c_7
    refine lv_iconst (v := 1) hx hb d_Model_mayStand_57 (by decide) ?_
    refine lv_goto (tgt := 62) hx hb d_Model_mayStand_58 (by decide) ?_
    cases hf
    exact W.zret (v := bI true) hx hb hr (bI_nar _) (fun t ht hW => ⟨rfl, ht⟩) (fun q h => nomatch h) d_Model_mayStand_62
  replace hf := q_ie hf c_7
  refine lv_aload_n hx hb d_Model_mayStand_43 rfl (lv_at hl 0 rfl) ?_
  refine va_get (D := D) (ci := 8) (v := .ref (ad 38)) (C := R_Model) (T := F_Model) (N := 30) hx hb hts hn_Model hown hK hP 0 rfl rfl 12 (by decide) hL36 (fun _ h9 => h9) rfl d_Model_mayStand_44 ?_
  refine lv_bipush (v := 6) hx hb d_Model_mayStand_47 (by decide) ?_
  refine lv_iload_n hx hb d_Model_mayStand_49 rfl (lv_at hl 3 rfl) ?_
  refine lv_imul hx hb d_Model_mayStand_50 ?_
  refine lv_iload_n hx hb d_Model_mayStand_51 rfl (lv_at hl 1 rfl) ?_
  refine lv_iadd hx hb d_Model_mayStand_52 ?_
  obtain ⟨hi_8, hf⟩ := q_ck hf
  refine va_zald hx hb hK hP 2 2 rfl rfl hi_8 d_Model_mayStand_53 ?_
  refine lv_if_ne (tgt := 61) hx hb d_Model_mayStand_54 (by decide) (fun c_9 => ?_) (fun c_9 => ?_)
  · replace hf := q_ie hf c_9
    refine lv_iconst (v := 0) hx hb d_Model_mayStand_61 (by decide) ?_
    cases hf
    exact W.zret (v := bI false) hx hb hr (bI_nar _) (fun t ht hW => ⟨rfl, ht⟩) (fun q h => nomatch h) d_Model_mayStand_62
  replace hf := q_it hf c_9
  refine lv_iconst (v := 1) hx hb d_Model_mayStand_57 (by decide) ?_
  refine lv_goto (tgt := 62) hx hb d_Model_mayStand_58 (by decide) ?_
  cases hf
  exact W.zret (v := bI true) hx hb hr (bI_nar _) (fun t ht hW => ⟨rfl, ht⟩) (fun q h => nomatch h) d_Model_mayStand_62
def f_Model_index (N : Nat)  (p1 : Int32) (p2 : Int32) (p3 : Int32) : Option (Int32) := (some (((512 * p1) + (64 * p2)) + p3))
set_option maxRecDepth 100000 in
set_option maxHeartbeats 4000000 in
theorem c_Model_index (l : Launch) (D : va_G) (ad : Nat → Nat) (ki : Nat → ClassId)  (p1 : Int32) (p2 : Int32) (p3 : Int32) (N : Nat) (r : Int32) (hf : f_Model_index N p1 p2 p3 = some r) : Met l y_Model_index w_Model_index { frames := 0, cells := 0, slots := 0, locals := 0 } (q_PcP [.int p1, .int p2, .int p3] D vwCl [] (TYS ki)) (k2_QcV (.int r)) 0 0 (fun _ => False) := by
  refine Met.ofW (cc := b_Model_index) (maxL := 3) (ret := (some .int)) (by decide) rfl ?_
  intro p e s m args below meth c s₁ B hml hv
  obtain ⟨rfl, hP, hK, hE⟩ := hv
  have hx := B.exec
  have hb := B.bytes
  have hr := B.returns
  have hts := atoms_spec (ws := w_Model_index) B.pre
  have hown : s.vm.findClass R_Model = some m.cls := findClass_of_methodNamed B.named
  have hlocks := B.notSynchronized
  replace hP : va_P D vwCl [] s.heap := hP
  have hl := lv_entry ([.int p1, .int p2, .int p3]) (n := 3) (Nat.le_of_ble_eq_true rfl)
  rw [lg_entry_eq]
  generalize (lg_sl ([.int p1, .int p2, .int p3]) ++ List.replicate (3 - (lg_sl ([.int p1, .int p2, .int p3])).length) Slot.unset).toArray = ls at hl ⊢
  replace hl : lv_has ls 3 [(0, .int p1), (1, .int p2), (2, .int p3)] := hl
  unfold f_Model_index at hf
  refine lv_sipush (v := 512) hx hb d_Model_index_0 (by decide) ?_
  refine lv_iload_n hx hb d_Model_index_3 rfl (lv_at hl 0 rfl) ?_
  refine lv_imul hx hb d_Model_index_4 ?_
  refine lv_bipush (v := 64) hx hb d_Model_index_5 (by decide) ?_
  refine lv_iload_n hx hb d_Model_index_7 rfl (lv_at hl 1 rfl) ?_
  refine lv_imul hx hb d_Model_index_8 ?_
  refine lv_iadd hx hb d_Model_index_9 ?_
  refine lv_iload_n hx hb d_Model_index_10 rfl (lv_at hl 2 rfl) ?_
  refine lv_iadd hx hb d_Model_index_11 ?_
  cases hf
  exact W.iret (v := (((512 * p1) + (64 * p2)) + p3)) hx hb hr (fun t ht hW => ⟨rfl, ht⟩) (fun q h => nomatch h) d_Model_index_12
def f_Model_choose (N : Nat) (n_mbw : Nat) (n_mbc : Nat) (v_mod_code : Int32) (v_mod_steps : Int32) (v_mod_pipes : Int32) (v_mod_items : Int32) (v_mod_least : Int32) (v_mod_most : Int32) (v_mod_hasPlan : Bool) (v_mod_told : Int32) (v_mod_pieces : Int32) (v_mod_planWorth : Int64) (v_mod_planCents : Int64) (v_mbw : Nat → Int64) (v_mbc : Nat → Int64) (p1 : Int32) (p2 : Int32) (p3 : Int64) (p4 : Int64) : Option ((Nat → Int64) × (Nat → Int64)) := (if p2 < 0 ∨ n_mbw ≤ Int32.toNatClampNeg p2 then none else (if 0 ≤ (lg_cmp (v_mbw (Int32.toNatClampNeg p2)) 0) then (if p2 < 0 ∨ n_mbw ≤ Int32.toNatClampNeg p2 then none else (if p2 < 0 ∨ n_mbc ≤ Int32.toNatClampNeg p2 then none else (if p1 < 0 ∨ n_mbw ≤ Int32.toNatClampNeg p1 then none else (if 0 < (lg_cmp ((v_mbw (Int32.toNatClampNeg p2)) + p3) (v_mbw (Int32.toNatClampNeg p1))) then (if p1 < 0 ∨ n_mbw ≤ Int32.toNatClampNeg p1 then none else (if p1 < 0 ∨ n_mbc ≤ Int32.toNatClampNeg p1 then none else (some ((vp_updL v_mbw (Int32.toNatClampNeg p1) ((v_mbw (Int32.toNatClampNeg p2)) + p3)), (vp_updL v_mbc (Int32.toNatClampNeg p1) ((v_mbc (Int32.toNatClampNeg p2)) + p4)))))) else (if p1 < 0 ∨ n_mbw ≤ Int32.toNatClampNeg p1 then none else (if (lg_cmp ((v_mbw (Int32.toNatClampNeg p2)) + p3) (v_mbw (Int32.toNatClampNeg p1))) = 0 then (if p1 < 0 ∨ n_mbc ≤ Int32.toNatClampNeg p1 then none else (if 0 ≤ (lg_cmp ((v_mbc (Int32.toNatClampNeg p2)) + p4) (v_mbc (Int32.toNatClampNeg p1))) then (some (v_mbw, v_mbc)) else (if p1 < 0 ∨ n_mbw ≤ Int32.toNatClampNeg p1 then none else (if p1 < 0 ∨ n_mbc ≤ Int32.toNatClampNeg p1 then none else (some ((vp_updL v_mbw (Int32.toNatClampNeg p1) ((v_mbw (Int32.toNatClampNeg p2)) + p3)), (vp_updL v_mbc (Int32.toNatClampNeg p1) ((v_mbc (Int32.toNatClampNeg p2)) + p4)))))))) else (some (v_mbw, v_mbc)))))))) else (some (v_mbw, v_mbc))))
set_option maxRecDepth 100000 in
set_option maxHeartbeats 4000000 in
theorem c_Model_choose (l : Launch) (D : va_G) (ad : Nat → Nat) (ki : Nat → ClassId) (n_mbw : Nat) (n_mbc : Nat) (v_mod_code : Int32) (v_mod_steps : Int32) (v_mod_pipes : Int32) (v_mod_items : Int32) (v_mod_least : Int32) (v_mod_most : Int32) (v_mod_hasPlan : Bool) (v_mod_told : Int32) (v_mod_pieces : Int32) (v_mod_planWorth : Int64) (v_mod_planCents : Int64) (v_mbw : Nat → Int64) (v_mbc : Nat → Int64) (p1 : Int32) (p2 : Int32) (p3 : Int64) (p4 : Int64) (N : Nat) (sz : Nat) (ov_mbw : Nat → Int64) (ov_mbc : Nat → Int64) (hf : f_Model_choose N n_mbw n_mbc v_mod_code v_mod_steps v_mod_pipes v_mod_items v_mod_least v_mod_most v_mod_hasPlan v_mod_told v_mod_pieces v_mod_planWorth v_mod_planCents v_mbw v_mbc p1 p2 p3 p4 = some (ov_mbw, ov_mbc)) : Met l y_Model_choose w_Model_choose { frames := 0, cells := 0, slots := 0, locals := 0 } (q_PcM [.ref (ad 29), .int p1, .int p2, .long p3, .long p4] D vwCl [(ad 29, .inr (8, [.int v_mod_code, .int v_mod_steps, .ref (ad 30), .int v_mod_pipes, .ref (ad 31), .int v_mod_items, .ref (ad 32), .ref (ad 33), .ref (ad 34), .ref (ad 35), .ref (ad 36), .ref (ad 37), .ref (ad 38), .int v_mod_least, .int v_mod_most, .ref (ad 39), .ref (ad 40), .ref (ad 41), .ref (ad 42), .ref (ad 43), .ref (ad 44), .int (bI v_mod_hasPlan), .int v_mod_told, .ref (ad 45), .int v_mod_pieces, .ref (ad 46), .ref (ad 47), .ref (ad 48), .long v_mod_planWorth, .long v_mod_planCents])), (ad 40, .inl (ki 1, n_mbw, .inr (.inl v_mbw))), (ad 41, .inl (ki 1, n_mbc, .inr (.inl v_mbc)))] (TYS ki) sz) (q_Qm (none) D vwCl [(ad 29, .inr (8, [.int v_mod_code, .int v_mod_steps, .ref (ad 30), .int v_mod_pipes, .ref (ad 31), .int v_mod_items, .ref (ad 32), .ref (ad 33), .ref (ad 34), .ref (ad 35), .ref (ad 36), .ref (ad 37), .ref (ad 38), .int v_mod_least, .int v_mod_most, .ref (ad 39), .ref (ad 40), .ref (ad 41), .ref (ad 42), .ref (ad 43), .ref (ad 44), .int (bI v_mod_hasPlan), .int v_mod_told, .ref (ad 45), .int v_mod_pieces, .ref (ad 46), .ref (ad 47), .ref (ad 48), .long v_mod_planWorth, .long v_mod_planCents])), (ad 40, .inl (ki 1, n_mbw, .inr (.inl ov_mbw))), (ad 41, .inl (ki 1, n_mbc, .inr (.inl ov_mbc)))] (va_A [(ad 29, .inr (8, [.int v_mod_code, .int v_mod_steps, .ref (ad 30), .int v_mod_pipes, .ref (ad 31), .int v_mod_items, .ref (ad 32), .ref (ad 33), .ref (ad 34), .ref (ad 35), .ref (ad 36), .ref (ad 37), .ref (ad 38), .int v_mod_least, .int v_mod_most, .ref (ad 39), .ref (ad 40), .ref (ad 41), .ref (ad 42), .ref (ad 43), .ref (ad 44), .int (bI v_mod_hasPlan), .int v_mod_told, .ref (ad 45), .int v_mod_pieces, .ref (ad 46), .ref (ad 47), .ref (ad 48), .long v_mod_planWorth, .long v_mod_planCents])), (ad 40, .inl (ki 1, n_mbw, .inr (.inl v_mbw))), (ad 41, .inl (ki 1, n_mbc, .inr (.inl v_mbc)))] sz)) 0 0 (va_A [(ad 29, .inr (8, [.int v_mod_code, .int v_mod_steps, .ref (ad 30), .int v_mod_pipes, .ref (ad 31), .int v_mod_items, .ref (ad 32), .ref (ad 33), .ref (ad 34), .ref (ad 35), .ref (ad 36), .ref (ad 37), .ref (ad 38), .int v_mod_least, .int v_mod_most, .ref (ad 39), .ref (ad 40), .ref (ad 41), .ref (ad 42), .ref (ad 43), .ref (ad 44), .int (bI v_mod_hasPlan), .int v_mod_told, .ref (ad 45), .int v_mod_pieces, .ref (ad 46), .ref (ad 47), .ref (ad 48), .long v_mod_planWorth, .long v_mod_planCents])), (ad 40, .inl (ki 1, n_mbw, .inr (.inl v_mbw))), (ad 41, .inl (ki 1, n_mbc, .inr (.inl v_mbc)))] sz) := by
  refine Met.ofW (cc := b_Model_choose) (maxL := 11) (ret := none) (by decide) rfl ?_
  intro p e s m args below meth c s₁ B hml hv
  obtain ⟨rfl, hsz, hP, hK, hD0, hE⟩ := hv
  have hx := B.exec
  have hb := B.bytes
  have hr := B.returns
  have hts := atoms_spec (ws := w_Model_choose) B.pre
  have hown : s.vm.findClass R_Model = some m.cls := findClass_of_methodNamed B.named
  have hlocks := B.notSynchronized
  have hn_Model : ∀ w ∈ u_ws R_Model F_Model 30, w ∈ w_Model_choose := (fun w h => List.mem_cons_of_mem _ (i_Model w h))
  have hL42 := hts (.fieldLink R_Model 42 "RoomFillsModel" "bestWorth" "[J") (List.mem_cons_of_mem _ m_859)
  have hL45 := hts (.fieldLink R_Model 45 "RoomFillsModel" "bestCents" "[J") (List.mem_cons_of_mem _ m_860)
  subst hsz
  have hD := hD0.self (sz := s.heap.size)
  generalize hAe : va_A [(ad 29, .inr (8, [.int v_mod_code, .int v_mod_steps, .ref (ad 30), .int v_mod_pipes, .ref (ad 31), .int v_mod_items, .ref (ad 32), .ref (ad 33), .ref (ad 34), .ref (ad 35), .ref (ad 36), .ref (ad 37), .ref (ad 38), .int v_mod_least, .int v_mod_most, .ref (ad 39), .ref (ad 40), .ref (ad 41), .ref (ad 42), .ref (ad 43), .ref (ad 44), .int (bI v_mod_hasPlan), .int v_mod_told, .ref (ad 45), .int v_mod_pieces, .ref (ad 46), .ref (ad 47), .ref (ad 48), .long v_mod_planWorth, .long v_mod_planCents])), (ad 40, .inl (ki 1, n_mbw, .inr (.inl v_mbw))), (ad 41, .inl (ki 1, n_mbc, .inr (.inl v_mbc)))] s.heap.size = A at hD ⊢
  have hA : ∀ q : Nat, s.heap.size ≤ q → A q := fun q h => by rw [← hAe]; exact Or.inr h
  have hS : va_S A s.heap s.heap [] := va_S.rf
  replace hP : va_P D vwCl [(ad 29, .inr (8, [.int v_mod_code, .int v_mod_steps, .ref (ad 30), .int v_mod_pipes, .ref (ad 31), .int v_mod_items, .ref (ad 32), .ref (ad 33), .ref (ad 34), .ref (ad 35), .ref (ad 36), .ref (ad 37), .ref (ad 38), .int v_mod_least, .int v_mod_most, .ref (ad 39), .ref (ad 40), .ref (ad 41), .ref (ad 42), .ref (ad 43), .ref (ad 44), .int (bI v_mod_hasPlan), .int v_mod_told, .ref (ad 45), .int v_mod_pieces, .ref (ad 46), .ref (ad 47), .ref (ad 48), .long v_mod_planWorth, .long v_mod_planCents])), (ad 40, .inl (ki 1, n_mbw, .inr (.inl v_mbw))), (ad 41, .inl (ki 1, n_mbc, .inr (.inl v_mbc)))] s.heap := hP
  have hl := lv_entry ([.ref (ad 29), .int p1, .int p2, .long p3, .long p4]) (n := 11) (Nat.le_of_ble_eq_true rfl)
  rw [lg_entry_eq]
  generalize (lg_sl ([.ref (ad 29), .int p1, .int p2, .long p3, .long p4]) ++ List.replicate (11 - (lg_sl ([.ref (ad 29), .int p1, .int p2, .long p3, .long p4])).length) Slot.unset).toArray = ls at hl ⊢
  replace hl : lv_has ls 11 [(0, .ref (ad 29)), (1, .int p1), (2, .int p2), (3, .long p3), (5, .long p4)] := hl
  unfold f_Model_choose at hf
  refine lv_aload_n hx hb d_Model_choose_0 rfl (lv_at hl 0 rfl) ?_
  refine va_get (D := D) (ci := 8) (v := .ref (ad 40)) (C := R_Model) (T := F_Model) (N := 30) hx hb hts hn_Model hown hK hP 0 rfl rfl 16 (by decide) hL42 (fun _ h9 => h9) rfl d_Model_choose_1 ?_
  refine lv_iload_n hx hb d_Model_choose_4 rfl (lv_at hl 2 rfl) ?_
  obtain ⟨hi_1, hf⟩ := q_ck hf
  refine va_lald hx hb hK hP 1 1 rfl rfl hi_1 d_Model_choose_5 ?_
  refine lv_lconst (v := 0) hx hb d_Model_choose_6 (by decide) ?_
  refine W.lcmp hx hb d_Model_choose_7 ?_
  refine lv_if_ge (tgt := 12) hx hb d_Model_choose_8 (by decide) (fun c_2 => ?_) (fun c_2 => ?_)
  · replace hf := q_it hf c_2
    refine lv_aload_n hx hb d_Model_choose_12 rfl (lv_at hl 0 rfl) ?_
    refine va_get (D := D) (ci := 8) (v := .ref (ad 40)) (C := R_Model) (T := F_Model) (N := 30) hx hb hts hn_Model hown hK hP 0 rfl rfl 16 (by decide) hL42 (fun _ h9 => h9) rfl d_Model_choose_13 ?_
    refine lv_iload_n hx hb d_Model_choose_16 rfl (lv_at hl 2 rfl) ?_
    obtain ⟨hi_3, hf⟩ := q_ck hf
    refine va_lald hx hb hK hP 1 1 rfl rfl hi_3 d_Model_choose_17 ?_
    refine lv_lload_n hx hb d_Model_choose_18 rfl (lv_at hl 3 rfl) ?_
    refine lv_ladd hx hb d_Model_choose_19 ?_
    refine lv_lstore (lv' := [(7, .long ((v_mbw (Int32.toNatClampNeg p2)) + p3)), (0, .ref (ad 29)), (1, .int p1), (2, .int p2), (3, .long p3), (5, .long p4)]) hx hb d_Model_choose_20 hl (by decide) rfl (fun ls hl => ?_)
    refine lv_aload_n hx hb d_Model_choose_22 rfl (lv_at hl 1 rfl) ?_
    refine va_get (D := D) (ci := 8) (v := .ref (ad 41)) (C := R_Model) (T := F_Model) (N := 30) hx hb hts hn_Model hown hK hP 0 rfl rfl 17 (by decide) hL45 (fun _ h9 => h9) rfl d_Model_choose_23 ?_
    refine lv_iload_n hx hb d_Model_choose_26 rfl (lv_at hl 3 rfl) ?_
    obtain ⟨hi_4, hf⟩ := q_ck hf
    refine va_lald hx hb hK hP 2 1 rfl rfl hi_4 d_Model_choose_27 ?_
    refine lv_lload hx hb d_Model_choose_28 (lv_at hl 5 rfl) ?_
    refine lv_ladd hx hb d_Model_choose_30 ?_
    refine lv_lstore (lv' := [(9, .long ((v_mbc (Int32.toNatClampNeg p2)) + p4)), (7, .long ((v_mbw (Int32.toNatClampNeg p2)) + p3)), (0, .ref (ad 29)), (1, .int p1), (2, .int p2), (3, .long p3), (5, .long p4)]) hx hb d_Model_choose_31 hl (by decide) rfl (fun ls hl => ?_)
    refine lv_lload hx hb d_Model_choose_33 (lv_at hl 1 rfl) ?_
    refine lv_aload_n hx hb d_Model_choose_35 rfl (lv_at hl 2 rfl) ?_
    refine va_get (D := D) (ci := 8) (v := .ref (ad 40)) (C := R_Model) (T := F_Model) (N := 30) hx hb hts hn_Model hown hK hP 0 rfl rfl 16 (by decide) hL42 (fun _ h9 => h9) rfl d_Model_choose_36 ?_
    refine lv_iload_n hx hb d_Model_choose_39 rfl (lv_at hl 3 rfl) ?_
    obtain ⟨hi_5, hf⟩ := q_ck hf
    refine va_lald hx hb hK hP 1 1 rfl rfl hi_5 d_Model_choose_40 ?_
    refine W.lcmp hx hb d_Model_choose_41 ?_
    refine lv_if_gt (tgt := 69) hx hb d_Model_choose_42 (by decide) (fun c_6 => ?_) (fun c_6 => ?_)
    · replace hf := q_it hf c_6
      refine lv_aload_n hx hb d_Model_choose_69 rfl (lv_at hl 2 rfl) ?_
      refine va_get (D := D) (ci := 8) (v := .ref (ad 40)) (C := R_Model) (T := F_Model) (N := 30) hx hb hts hn_Model hown hK hP 0 rfl rfl 16 (by decide) hL42 (fun _ h9 => h9) rfl d_Model_choose_70 ?_
      refine lv_iload_n hx hb d_Model_choose_73 rfl (lv_at hl 3 rfl) ?_
      refine lv_lload hx hb d_Model_choose_74 (lv_at hl 1 rfl) ?_
      obtain ⟨hi_7, hf⟩ := q_ck hf
      refine va_last hx hb hK hP hD hS 1 1 rfl rfl hi_7 d_Model_choose_76 (fun H locs hP hD hS => ?_)
      replace hP : va_P D vwCl [(ad 29, .inr (8, [.int v_mod_code, .int v_mod_steps, .ref (ad 30), .int v_mod_pipes, .ref (ad 31), .int v_mod_items, .ref (ad 32), .ref (ad 33), .ref (ad 34), .ref (ad 35), .ref (ad 36), .ref (ad 37), .ref (ad 38), .int v_mod_least, .int v_mod_most, .ref (ad 39), .ref (ad 40), .ref (ad 41), .ref (ad 42), .ref (ad 43), .ref (ad 44), .int (bI v_mod_hasPlan), .int v_mod_told, .ref (ad 45), .int v_mod_pieces, .ref (ad 46), .ref (ad 47), .ref (ad 48), .long v_mod_planWorth, .long v_mod_planCents])), (ad 40, .inl (ki 1, n_mbw, .inr (.inl (vp_updL v_mbw (Int32.toNatClampNeg p1) ((v_mbw (Int32.toNatClampNeg p2)) + p3))))), (ad 41, .inl (ki 1, n_mbc, .inr (.inl v_mbc)))] H := hP
      replace hD : va_D A [(ad 29, .inr (8, [.int v_mod_code, .int v_mod_steps, .ref (ad 30), .int v_mod_pipes, .ref (ad 31), .int v_mod_items, .ref (ad 32), .ref (ad 33), .ref (ad 34), .ref (ad 35), .ref (ad 36), .ref (ad 37), .ref (ad 38), .int v_mod_least, .int v_mod_most, .ref (ad 39), .ref (ad 40), .ref (ad 41), .ref (ad 42), .ref (ad 43), .ref (ad 44), .int (bI v_mod_hasPlan), .int v_mod_told, .ref (ad 45), .int v_mod_pieces, .ref (ad 46), .ref (ad 47), .ref (ad 48), .long v_mod_planWorth, .long v_mod_planCents])), (ad 40, .inl (ki 1, n_mbw, .inr (.inl (vp_updL v_mbw (Int32.toNatClampNeg p1) ((v_mbw (Int32.toNatClampNeg p2)) + p3))))), (ad 41, .inl (ki 1, n_mbc, .inr (.inl v_mbc)))] := hD
      refine lv_aload_n hx hb d_Model_choose_77 rfl (lv_at hl 2 rfl) ?_
      refine va_get (D := D) (ci := 8) (v := .ref (ad 41)) (C := R_Model) (T := F_Model) (N := 30) hx hb hts hn_Model hown hK hP 0 rfl rfl 17 (by decide) hL45 (fun _ h9 => h9) rfl d_Model_choose_78 ?_
      refine lv_iload_n hx hb d_Model_choose_81 rfl (lv_at hl 3 rfl) ?_
      refine lv_lload hx hb d_Model_choose_82 (lv_at hl 0 rfl) ?_
      obtain ⟨hi_8, hf⟩ := q_ck hf
      refine va_last hx hb hK hP hD hS 2 1 rfl rfl hi_8 d_Model_choose_84 (fun H locs hP hD hS => ?_)
      replace hP : va_P D vwCl [(ad 29, .inr (8, [.int v_mod_code, .int v_mod_steps, .ref (ad 30), .int v_mod_pipes, .ref (ad 31), .int v_mod_items, .ref (ad 32), .ref (ad 33), .ref (ad 34), .ref (ad 35), .ref (ad 36), .ref (ad 37), .ref (ad 38), .int v_mod_least, .int v_mod_most, .ref (ad 39), .ref (ad 40), .ref (ad 41), .ref (ad 42), .ref (ad 43), .ref (ad 44), .int (bI v_mod_hasPlan), .int v_mod_told, .ref (ad 45), .int v_mod_pieces, .ref (ad 46), .ref (ad 47), .ref (ad 48), .long v_mod_planWorth, .long v_mod_planCents])), (ad 40, .inl (ki 1, n_mbw, .inr (.inl (vp_updL v_mbw (Int32.toNatClampNeg p1) ((v_mbw (Int32.toNatClampNeg p2)) + p3))))), (ad 41, .inl (ki 1, n_mbc, .inr (.inl (vp_updL v_mbc (Int32.toNatClampNeg p1) ((v_mbc (Int32.toNatClampNeg p2)) + p4)))))] H := hP
      replace hD : va_D A [(ad 29, .inr (8, [.int v_mod_code, .int v_mod_steps, .ref (ad 30), .int v_mod_pipes, .ref (ad 31), .int v_mod_items, .ref (ad 32), .ref (ad 33), .ref (ad 34), .ref (ad 35), .ref (ad 36), .ref (ad 37), .ref (ad 38), .int v_mod_least, .int v_mod_most, .ref (ad 39), .ref (ad 40), .ref (ad 41), .ref (ad 42), .ref (ad 43), .ref (ad 44), .int (bI v_mod_hasPlan), .int v_mod_told, .ref (ad 45), .int v_mod_pieces, .ref (ad 46), .ref (ad 47), .ref (ad 48), .long v_mod_planWorth, .long v_mod_planCents])), (ad 40, .inl (ki 1, n_mbw, .inr (.inl (vp_updL v_mbw (Int32.toNatClampNeg p1) ((v_mbw (Int32.toNatClampNeg p2)) + p3))))), (ad 41, .inl (ki 1, n_mbc, .inr (.inl (vp_updL v_mbc (Int32.toNatClampNeg p1) ((v_mbc (Int32.toNatClampNeg p2)) + p4)))))] := hD
      cases hf
      exact W.vret hx hb hr (fun t ht hW => ⟨rfl, by rw [ht]; exact hP, hS.F ht⟩) hS.2.2 d_Model_choose_85
    replace hf := q_ie hf c_6
    refine lv_lload hx hb d_Model_choose_45 (lv_at hl 1 rfl) ?_
    refine lv_aload_n hx hb d_Model_choose_47 rfl (lv_at hl 2 rfl) ?_
    refine va_get (D := D) (ci := 8) (v := .ref (ad 40)) (C := R_Model) (T := F_Model) (N := 30) hx hb hts hn_Model hown hK hP 0 rfl rfl 16 (by decide) hL42 (fun _ h9 => h9) rfl d_Model_choose_48 ?_
    refine lv_iload_n hx hb d_Model_choose_51 rfl (lv_at hl 3 rfl) ?_
    obtain ⟨hi_9, hf⟩ := q_ck hf
    refine va_lald hx hb hK hP 1 1 rfl rfl hi_9 d_Model_choose_52 ?_
    refine W.lcmp hx hb d_Model_choose_53 ?_
    refine lv_if_ne (tgt := 85) hx hb d_Model_choose_54 (by decide) (fun c_10 => ?_) (fun c_10 => ?_)
    · replace hf := q_ie hf c_10
      cases hf
      exact W.vret hx hb hr (fun t ht hW => ⟨rfl, by rw [ht]; exact hP, hS.F ht⟩) hS.2.2 d_Model_choose_85
    replace hf := q_it hf c_10
    refine lv_lload hx hb d_Model_choose_57 (lv_at hl 0 rfl) ?_
    refine lv_aload_n hx hb d_Model_choose_59 rfl (lv_at hl 2 rfl) ?_
    refine va_get (D := D) (ci := 8) (v := .ref (ad 41)) (C := R_Model) (T := F_Model) (N := 30) hx hb hts hn_Model hown hK hP 0 rfl rfl 17 (by decide) hL45 (fun _ h9 => h9) rfl d_Model_choose_60 ?_
    refine lv_iload_n hx hb d_Model_choose_63 rfl (lv_at hl 3 rfl) ?_
    obtain ⟨hi_11, hf⟩ := q_ck hf
    refine va_lald hx hb hK hP 2 1 rfl rfl hi_11 d_Model_choose_64 ?_
    refine W.lcmp hx hb d_Model_choose_65 ?_
    refine lv_if_ge (tgt := 85) hx hb d_Model_choose_66 (by decide) (fun c_12 => ?_) (fun c_12 => ?_)
    · replace hf := q_it hf c_12
      cases hf
      exact W.vret hx hb hr (fun t ht hW => ⟨rfl, by rw [ht]; exact hP, hS.F ht⟩) hS.2.2 d_Model_choose_85
    replace hf := q_ie hf c_12
    refine lv_aload_n hx hb d_Model_choose_69 rfl (lv_at hl 2 rfl) ?_
    refine va_get (D := D) (ci := 8) (v := .ref (ad 40)) (C := R_Model) (T := F_Model) (N := 30) hx hb hts hn_Model hown hK hP 0 rfl rfl 16 (by decide) hL42 (fun _ h9 => h9) rfl d_Model_choose_70 ?_
    refine lv_iload_n hx hb d_Model_choose_73 rfl (lv_at hl 3 rfl) ?_
    refine lv_lload hx hb d_Model_choose_74 (lv_at hl 1 rfl) ?_
    obtain ⟨hi_13, hf⟩ := q_ck hf
    refine va_last hx hb hK hP hD hS 1 1 rfl rfl hi_13 d_Model_choose_76 (fun H locs hP hD hS => ?_)
    replace hP : va_P D vwCl [(ad 29, .inr (8, [.int v_mod_code, .int v_mod_steps, .ref (ad 30), .int v_mod_pipes, .ref (ad 31), .int v_mod_items, .ref (ad 32), .ref (ad 33), .ref (ad 34), .ref (ad 35), .ref (ad 36), .ref (ad 37), .ref (ad 38), .int v_mod_least, .int v_mod_most, .ref (ad 39), .ref (ad 40), .ref (ad 41), .ref (ad 42), .ref (ad 43), .ref (ad 44), .int (bI v_mod_hasPlan), .int v_mod_told, .ref (ad 45), .int v_mod_pieces, .ref (ad 46), .ref (ad 47), .ref (ad 48), .long v_mod_planWorth, .long v_mod_planCents])), (ad 40, .inl (ki 1, n_mbw, .inr (.inl (vp_updL v_mbw (Int32.toNatClampNeg p1) ((v_mbw (Int32.toNatClampNeg p2)) + p3))))), (ad 41, .inl (ki 1, n_mbc, .inr (.inl v_mbc)))] H := hP
    replace hD : va_D A [(ad 29, .inr (8, [.int v_mod_code, .int v_mod_steps, .ref (ad 30), .int v_mod_pipes, .ref (ad 31), .int v_mod_items, .ref (ad 32), .ref (ad 33), .ref (ad 34), .ref (ad 35), .ref (ad 36), .ref (ad 37), .ref (ad 38), .int v_mod_least, .int v_mod_most, .ref (ad 39), .ref (ad 40), .ref (ad 41), .ref (ad 42), .ref (ad 43), .ref (ad 44), .int (bI v_mod_hasPlan), .int v_mod_told, .ref (ad 45), .int v_mod_pieces, .ref (ad 46), .ref (ad 47), .ref (ad 48), .long v_mod_planWorth, .long v_mod_planCents])), (ad 40, .inl (ki 1, n_mbw, .inr (.inl (vp_updL v_mbw (Int32.toNatClampNeg p1) ((v_mbw (Int32.toNatClampNeg p2)) + p3))))), (ad 41, .inl (ki 1, n_mbc, .inr (.inl v_mbc)))] := hD
    refine lv_aload_n hx hb d_Model_choose_77 rfl (lv_at hl 2 rfl) ?_
    refine va_get (D := D) (ci := 8) (v := .ref (ad 41)) (C := R_Model) (T := F_Model) (N := 30) hx hb hts hn_Model hown hK hP 0 rfl rfl 17 (by decide) hL45 (fun _ h9 => h9) rfl d_Model_choose_78 ?_
    refine lv_iload_n hx hb d_Model_choose_81 rfl (lv_at hl 3 rfl) ?_
    refine lv_lload hx hb d_Model_choose_82 (lv_at hl 0 rfl) ?_
    obtain ⟨hi_14, hf⟩ := q_ck hf
    refine va_last hx hb hK hP hD hS 2 1 rfl rfl hi_14 d_Model_choose_84 (fun H locs hP hD hS => ?_)
    replace hP : va_P D vwCl [(ad 29, .inr (8, [.int v_mod_code, .int v_mod_steps, .ref (ad 30), .int v_mod_pipes, .ref (ad 31), .int v_mod_items, .ref (ad 32), .ref (ad 33), .ref (ad 34), .ref (ad 35), .ref (ad 36), .ref (ad 37), .ref (ad 38), .int v_mod_least, .int v_mod_most, .ref (ad 39), .ref (ad 40), .ref (ad 41), .ref (ad 42), .ref (ad 43), .ref (ad 44), .int (bI v_mod_hasPlan), .int v_mod_told, .ref (ad 45), .int v_mod_pieces, .ref (ad 46), .ref (ad 47), .ref (ad 48), .long v_mod_planWorth, .long v_mod_planCents])), (ad 40, .inl (ki 1, n_mbw, .inr (.inl (vp_updL v_mbw (Int32.toNatClampNeg p1) ((v_mbw (Int32.toNatClampNeg p2)) + p3))))), (ad 41, .inl (ki 1, n_mbc, .inr (.inl (vp_updL v_mbc (Int32.toNatClampNeg p1) ((v_mbc (Int32.toNatClampNeg p2)) + p4)))))] H := hP
    replace hD : va_D A [(ad 29, .inr (8, [.int v_mod_code, .int v_mod_steps, .ref (ad 30), .int v_mod_pipes, .ref (ad 31), .int v_mod_items, .ref (ad 32), .ref (ad 33), .ref (ad 34), .ref (ad 35), .ref (ad 36), .ref (ad 37), .ref (ad 38), .int v_mod_least, .int v_mod_most, .ref (ad 39), .ref (ad 40), .ref (ad 41), .ref (ad 42), .ref (ad 43), .ref (ad 44), .int (bI v_mod_hasPlan), .int v_mod_told, .ref (ad 45), .int v_mod_pieces, .ref (ad 46), .ref (ad 47), .ref (ad 48), .long v_mod_planWorth, .long v_mod_planCents])), (ad 40, .inl (ki 1, n_mbw, .inr (.inl (vp_updL v_mbw (Int32.toNatClampNeg p1) ((v_mbw (Int32.toNatClampNeg p2)) + p3))))), (ad 41, .inl (ki 1, n_mbc, .inr (.inl (vp_updL v_mbc (Int32.toNatClampNeg p1) ((v_mbc (Int32.toNatClampNeg p2)) + p4)))))] := hD
    cases hf
    exact W.vret hx hb hr (fun t ht hW => ⟨rfl, by rw [ht]; exact hP, hS.F ht⟩) hS.2.2 d_Model_choose_85
  replace hf := q_ie hf c_2
  cases hf
  exact W.vret hx hb hr (fun t ht hW => ⟨rfl, by rw [ht]; exact hP, hS.F ht⟩) hS.2.2 d_Model_choose_11
def f_Model_worthBehind (N : Nat) (n_mwor : Nat) (n_mnea : Nat) (v_mod_code : Int32) (v_mod_steps : Int32) (v_mod_pipes : Int32) (v_mod_items : Int32) (v_mod_least : Int32) (v_mod_most : Int32) (v_mod_hasPlan : Bool) (v_mod_told : Int32) (v_mod_pieces : Int32) (v_mod_planWorth : Int64) (v_mod_planCents : Int64) (v_mwor : Nat → Int64) (v_mnea : Nat → Int64) (p1 : Int32) (p2 : Int32) : Option (Int64) := (if p1 < 0 ∨ n_mwor ≤ Int32.toNatClampNeg p1 then none else (if (6 : Int32) ≤ p2 then (some ((v_mwor (Int32.toNatClampNeg p1)) + 0)) else (if ((6 * p2) + p1) < 0 ∨ n_mnea ≤ Int32.toNatClampNeg ((6 * p2) + p1) then none else (some ((v_mwor (Int32.toNatClampNeg p1)) + (v_mnea (Int32.toNatClampNeg ((6 * p2) + p1))))))))
set_option maxRecDepth 100000 in
set_option maxHeartbeats 4000000 in
theorem c_Model_worthBehind (l : Launch) (D : va_G) (ad : Nat → Nat) (ki : Nat → ClassId) (n_mwor : Nat) (n_mnea : Nat) (v_mod_code : Int32) (v_mod_steps : Int32) (v_mod_pipes : Int32) (v_mod_items : Int32) (v_mod_least : Int32) (v_mod_most : Int32) (v_mod_hasPlan : Bool) (v_mod_told : Int32) (v_mod_pieces : Int32) (v_mod_planWorth : Int64) (v_mod_planCents : Int64) (v_mwor : Nat → Int64) (v_mnea : Nat → Int64) (p1 : Int32) (p2 : Int32) (N : Nat) (r : Int64) (hf : f_Model_worthBehind N n_mwor n_mnea v_mod_code v_mod_steps v_mod_pipes v_mod_items v_mod_least v_mod_most v_mod_hasPlan v_mod_told v_mod_pieces v_mod_planWorth v_mod_planCents v_mwor v_mnea p1 p2 = some r) : Met l y_Model_worthBehind w_Model_worthBehind { frames := 0, cells := 0, slots := 0, locals := 0 } (q_PcP [.ref (ad 29), .int p1, .int p2] D vwCl [(ad 29, .inr (8, [.int v_mod_code, .int v_mod_steps, .ref (ad 30), .int v_mod_pipes, .ref (ad 31), .int v_mod_items, .ref (ad 32), .ref (ad 33), .ref (ad 34), .ref (ad 35), .ref (ad 36), .ref (ad 37), .ref (ad 38), .int v_mod_least, .int v_mod_most, .ref (ad 39), .ref (ad 40), .ref (ad 41), .ref (ad 42), .ref (ad 43), .ref (ad 44), .int (bI v_mod_hasPlan), .int v_mod_told, .ref (ad 45), .int v_mod_pieces, .ref (ad 46), .ref (ad 47), .ref (ad 48), .long v_mod_planWorth, .long v_mod_planCents])), (ad 33, .inl (ki 1, n_mwor, .inr (.inl v_mwor))), (ad 37, .inl (ki 1, n_mnea, .inr (.inl v_mnea)))] (TYS ki)) (k2_QcV (.long r)) 0 0 (fun _ => False) := by
  refine Met.ofW (cc := b_Model_worthBehind) (maxL := 3) (ret := (some .long)) (by decide) rfl ?_
  intro p e s m args below meth c s₁ B hml hv
  obtain ⟨rfl, hP, hK, hE⟩ := hv
  have hx := B.exec
  have hb := B.bytes
  have hr := B.returns
  have hts := atoms_spec (ws := w_Model_worthBehind) B.pre
  have hown : s.vm.findClass R_Model = some m.cls := findClass_of_methodNamed B.named
  have hlocks := B.notSynchronized
  have hn_Model : ∀ w ∈ u_ws R_Model F_Model 30, w ∈ w_Model_worthBehind := (fun w h => List.mem_cons_of_mem _ (i_Model w h))
  have hL20 := hts (.fieldLink R_Model 20 "RoomFillsModel" "worths" "[J") (List.mem_cons_of_mem _ m_850)
  have hL33 := hts (.fieldLink R_Model 33 "RoomFillsModel" "nears" "[J") (List.mem_cons_of_mem _ m_854)
  replace hP : va_P D vwCl [(ad 29, .inr (8, [.int v_mod_code, .int v_mod_steps, .ref (ad 30), .int v_mod_pipes, .ref (ad 31), .int v_mod_items, .ref (ad 32), .ref (ad 33), .ref (ad 34), .ref (ad 35), .ref (ad 36), .ref (ad 37), .ref (ad 38), .int v_mod_least, .int v_mod_most, .ref (ad 39), .ref (ad 40), .ref (ad 41), .ref (ad 42), .ref (ad 43), .ref (ad 44), .int (bI v_mod_hasPlan), .int v_mod_told, .ref (ad 45), .int v_mod_pieces, .ref (ad 46), .ref (ad 47), .ref (ad 48), .long v_mod_planWorth, .long v_mod_planCents])), (ad 33, .inl (ki 1, n_mwor, .inr (.inl v_mwor))), (ad 37, .inl (ki 1, n_mnea, .inr (.inl v_mnea)))] s.heap := hP
  have hl := lv_entry ([.ref (ad 29), .int p1, .int p2]) (n := 3) (Nat.le_of_ble_eq_true rfl)
  rw [lg_entry_eq]
  generalize (lg_sl ([.ref (ad 29), .int p1, .int p2]) ++ List.replicate (3 - (lg_sl ([.ref (ad 29), .int p1, .int p2])).length) Slot.unset).toArray = ls at hl ⊢
  replace hl : lv_has ls 3 [(0, .ref (ad 29)), (1, .int p1), (2, .int p2)] := hl
  unfold f_Model_worthBehind at hf
  refine lv_aload_n hx hb d_Model_worthBehind_0 rfl (lv_at hl 0 rfl) ?_
  refine va_get (D := D) (ci := 8) (v := .ref (ad 33)) (C := R_Model) (T := F_Model) (N := 30) hx hb hts hn_Model hown hK hP 0 rfl rfl 7 (by decide) hL20 (fun _ h9 => h9) rfl d_Model_worthBehind_1 ?_
  refine lv_iload_n hx hb d_Model_worthBehind_4 rfl (lv_at hl 1 rfl) ?_
  obtain ⟨hi_1, hf⟩ := q_ck hf
  refine va_lald hx hb hK hP 1 1 rfl rfl hi_1 d_Model_worthBehind_5 ?_
  refine lv_iload_n hx hb d_Model_worthBehind_6 rfl (lv_at hl 2 rfl) ?_
  refine lv_bipush (v := 6) hx hb d_Model_worthBehind_7 (by decide) ?_
  refine lv_icmp_ge (tgt := 26) hx hb d_Model_worthBehind_9 (by decide) (fun c_2 => ?_) (fun c_2 => ?_)
  · replace hf := q_it hf c_2
    refine lv_lconst (v := 0) hx hb d_Model_worthBehind_26 (by decide) ?_
    refine lv_ladd hx hb d_Model_worthBehind_27 ?_
    cases hf
    exact W.lret (v := ((v_mwor (Int32.toNatClampNeg p1)) + 0)) hx hb hr (fun t ht hW => ⟨rfl, ht⟩) (fun q h => nomatch h) d_Model_worthBehind_28
  replace hf := q_ie hf c_2
  refine lv_aload_n hx hb d_Model_worthBehind_12 rfl (lv_at hl 0 rfl) ?_
  refine va_get (D := D) (ci := 8) (v := .ref (ad 37)) (C := R_Model) (T := F_Model) (N := 30) hx hb hts hn_Model hown hK hP 0 rfl rfl 11 (by decide) hL33 (fun _ h9 => h9) rfl d_Model_worthBehind_13 ?_
  refine lv_bipush (v := 6) hx hb d_Model_worthBehind_16 (by decide) ?_
  refine lv_iload_n hx hb d_Model_worthBehind_18 rfl (lv_at hl 2 rfl) ?_
  refine lv_imul hx hb d_Model_worthBehind_19 ?_
  refine lv_iload_n hx hb d_Model_worthBehind_20 rfl (lv_at hl 1 rfl) ?_
  refine lv_iadd hx hb d_Model_worthBehind_21 ?_
  obtain ⟨hi_3, hf⟩ := q_ck hf
  refine va_lald hx hb hK hP 2 1 rfl rfl hi_3 d_Model_worthBehind_22 ?_
  refine lv_goto (tgt := 27) hx hb d_Model_worthBehind_23 (by decide) ?_
  refine lv_ladd hx hb d_Model_worthBehind_27 ?_
  cases hf
  exact W.lret (v := ((v_mwor (Int32.toNatClampNeg p1)) + (v_mnea (Int32.toNatClampNeg ((6 * p2) + p1))))) hx hb hr (fun t ht hW => ⟨rfl, ht⟩) (fun q h => nomatch h) d_Model_worthBehind_28
def f_Model_behindFree_cut (N : Nat) (n_mfree : Nat) (v_mod_code : Int32) (v_mod_steps : Int32) (v_mod_pipes : Int32) (v_mod_items : Int32) (v_mod_least : Int32) (v_mod_most : Int32) (v_mod_hasPlan : Bool) (v_mod_told : Int32) (v_mod_pieces : Int32) (v_mod_planWorth : Int64) (v_mod_planCents : Int64) (v_mfree : Nat → Int32) : Nat → Nat → Int32 → Int32 → Option (Int32)
  | 0, _, _, _ => none
  | n + 1, t, x1, x2 => (if v_mod_steps ≤ x2 then (some x2) else (if x2 < 0 ∨ n_mfree ≤ Int32.toNatClampNeg x2 then none else (if (v_mfree (Int32.toNatClampNeg x2)) = 0 then (some x2) else (f_Model_behindFree_cut N n_mfree v_mod_code v_mod_steps v_mod_pipes v_mod_items v_mod_least v_mod_most v_mod_hasPlan v_mod_told v_mod_pieces v_mod_planWorth v_mod_planCents v_mfree n 0 x1 (x2 + 1)))))
theorem f_Model_behindFree_cut_0 (N : Nat) (n_mfree : Nat) (v_mod_code : Int32) (v_mod_steps : Int32) (v_mod_pipes : Int32) (v_mod_items : Int32) (v_mod_least : Int32) (v_mod_most : Int32) (v_mod_hasPlan : Bool) (v_mod_told : Int32) (v_mod_pieces : Int32) (v_mod_planWorth : Int64) (v_mod_planCents : Int64) (v_mfree : Nat → Int32) (n : Nat) (x1 : Int32) (x2 : Int32) : f_Model_behindFree_cut N n_mfree v_mod_code v_mod_steps v_mod_pipes v_mod_items v_mod_least v_mod_most v_mod_hasPlan v_mod_told v_mod_pieces v_mod_planWorth v_mod_planCents v_mfree (n + 1) 0 x1 x2 = (if v_mod_steps ≤ x2 then (some x2) else (if x2 < 0 ∨ n_mfree ≤ Int32.toNatClampNeg x2 then none else (if (v_mfree (Int32.toNatClampNeg x2)) = 0 then (some x2) else (f_Model_behindFree_cut N n_mfree v_mod_code v_mod_steps v_mod_pipes v_mod_items v_mod_least v_mod_most v_mod_hasPlan v_mod_told v_mod_pieces v_mod_planWorth v_mod_planCents v_mfree n 0 x1 (x2 + 1))))) := rfl
def f_Model_behindFree (N : Nat) (n_mfree : Nat) (v_mod_code : Int32) (v_mod_steps : Int32) (v_mod_pipes : Int32) (v_mod_items : Int32) (v_mod_least : Int32) (v_mod_most : Int32) (v_mod_hasPlan : Bool) (v_mod_told : Int32) (v_mod_pieces : Int32) (v_mod_planWorth : Int64) (v_mod_planCents : Int64) (v_mfree : Nat → Int32) (p1 : Int32) : Option (Int32) := (f_Model_behindFree_cut N n_mfree v_mod_code v_mod_steps v_mod_pipes v_mod_items v_mod_least v_mod_most v_mod_hasPlan v_mod_told v_mod_pieces v_mod_planWorth v_mod_planCents v_mfree N 0 p1 p1)
set_option maxRecDepth 100000 in
set_option maxHeartbeats 4000000 in
theorem c_Model_behindFree (l : Launch) (D : va_G) (ad : Nat → Nat) (ki : Nat → ClassId) (n_mfree : Nat) (v_mod_code : Int32) (v_mod_steps : Int32) (v_mod_pipes : Int32) (v_mod_items : Int32) (v_mod_least : Int32) (v_mod_most : Int32) (v_mod_hasPlan : Bool) (v_mod_told : Int32) (v_mod_pieces : Int32) (v_mod_planWorth : Int64) (v_mod_planCents : Int64) (v_mfree : Nat → Int32) (p1 : Int32) (N : Nat) (r : Int32) (hf : f_Model_behindFree N n_mfree v_mod_code v_mod_steps v_mod_pipes v_mod_items v_mod_least v_mod_most v_mod_hasPlan v_mod_told v_mod_pieces v_mod_planWorth v_mod_planCents v_mfree p1 = some r) : Met l y_Model_behindFree w_Model_behindFree { frames := 0, cells := 0, slots := 0, locals := 0 } (q_PcP [.ref (ad 29), .int p1] D vwCl [(ad 29, .inr (8, [.int v_mod_code, .int v_mod_steps, .ref (ad 30), .int v_mod_pipes, .ref (ad 31), .int v_mod_items, .ref (ad 32), .ref (ad 33), .ref (ad 34), .ref (ad 35), .ref (ad 36), .ref (ad 37), .ref (ad 38), .int v_mod_least, .int v_mod_most, .ref (ad 39), .ref (ad 40), .ref (ad 41), .ref (ad 42), .ref (ad 43), .ref (ad 44), .int (bI v_mod_hasPlan), .int v_mod_told, .ref (ad 45), .int v_mod_pieces, .ref (ad 46), .ref (ad 47), .ref (ad 48), .long v_mod_planWorth, .long v_mod_planCents])), (ad 30, .inl (ki 2, n_mfree, .inl v_mfree))] (TYS ki)) (k2_QcV (.int r)) 0 0 (fun _ => False) := by
  refine Met.ofW (cc := b_Model_behindFree) (maxL := 3) (ret := (some .int)) (by decide) rfl ?_
  intro p e s m args below meth c s₁ B hml hv
  obtain ⟨rfl, hP, hK, hE⟩ := hv
  have hx := B.exec
  have hb := B.bytes
  have hr := B.returns
  have hts := atoms_spec (ws := w_Model_behindFree) B.pre
  have hown : s.vm.findClass R_Model = some m.cls := findClass_of_methodNamed B.named
  have hlocks := B.notSynchronized
  have hn_Model : ∀ w ∈ u_ws R_Model F_Model 30, w ∈ w_Model_behindFree := (fun w h => List.mem_cons_of_mem _ (i_Model w h))
  have hL7 := hts (.fieldLink R_Model 7 "RoomFillsModel" "free" "[Z") (List.mem_cons_of_mem _ m_845)
  have hL69 := hts (.fieldLink R_Model 69 "RoomFillsModel" "steps" "I") (List.mem_cons_of_mem _ m_844)
  replace hP : va_P D vwCl [(ad 29, .inr (8, [.int v_mod_code, .int v_mod_steps, .ref (ad 30), .int v_mod_pipes, .ref (ad 31), .int v_mod_items, .ref (ad 32), .ref (ad 33), .ref (ad 34), .ref (ad 35), .ref (ad 36), .ref (ad 37), .ref (ad 38), .int v_mod_least, .int v_mod_most, .ref (ad 39), .ref (ad 40), .ref (ad 41), .ref (ad 42), .ref (ad 43), .ref (ad 44), .int (bI v_mod_hasPlan), .int v_mod_told, .ref (ad 45), .int v_mod_pieces, .ref (ad 46), .ref (ad 47), .ref (ad 48), .long v_mod_planWorth, .long v_mod_planCents])), (ad 30, .inl (ki 2, n_mfree, .inl v_mfree))] s.heap := hP
  have hl := lv_entry ([.ref (ad 29), .int p1]) (n := 3) (Nat.le_of_ble_eq_true rfl)
  rw [lg_entry_eq]
  generalize (lg_sl ([.ref (ad 29), .int p1]) ++ List.replicate (3 - (lg_sl ([.ref (ad 29), .int p1])).length) Slot.unset).toArray = ls at hl ⊢
  replace hl : lv_has ls 3 [(0, .ref (ad 29)), (1, .int p1)] := hl
  have key : ∀ n : Nat, (∀ (x1 : Int32) (x2 : Int32), f_Model_behindFree_cut N n_mfree v_mod_code v_mod_steps v_mod_pipes v_mod_items v_mod_least v_mod_most v_mod_hasPlan v_mod_told v_mod_pieces v_mod_planWorth v_mod_planCents v_mfree n 0 x1 x2 = some r → ∀ (ls : Array Slot), lv_has ls 3 [(0, .ref (ad 29)), (1, .int x1), (2, .int x2)] → W p l e (headSpec w_Model_behindFree { frames := 0, cells := 0, slots := 0, locals := 0 }).room s m ([.ref (ad 29), .int p1] : List Value).toArray below meth c s.heap [] 0 0 (MQ below (k2_QcV (.int r)) ([.ref (ad 29), .int p1] : List Value).toArray s 0 0 (fun _ => False)) (F0 m 2 ls [])) := by
    intro n
    induction n with
    | zero =>
      exact fun x1 x2 hf => (nomatch (show none = some _ from hf))
    | succ n ih =>
      intro x1 x2 hf ls hl
      rw [f_Model_behindFree_cut_0] at hf
      refine lv_iload_n hx hb d_Model_behindFree_2 rfl (lv_at hl 2 rfl) ?_
      refine lv_aload_n hx hb d_Model_behindFree_3 rfl (lv_at hl 0 rfl) ?_
      refine va_get (D := D) (ci := 8) (v := .int v_mod_steps) (C := R_Model) (T := F_Model) (N := 30) hx hb hts hn_Model hown hK hP 0 rfl rfl 1 (by decide) hL69 (fun _ h9 => h9) rfl d_Model_behindFree_4 ?_
      refine lv_icmp_ge (tgt := 25) hx hb d_Model_behindFree_7 (by decide) (fun c_1 => ?_) (fun c_1 => ?_)
      · replace hf := q_it hf c_1
        refine lv_iload_n hx hb d_Model_behindFree_25 rfl (lv_at hl 2 rfl) ?_
        cases hf
        first | exact W.iret (v := x2) hx hb hr (fun t ht hW => ⟨rfl, ht⟩) (fun q h => nomatch h) d_Model_behindFree_26 | exact W.iret (v := r) hx hb hr (fun t ht hW => ⟨rfl, ht⟩) (fun q h => nomatch h) d_Model_behindFree_26
      replace hf := q_ie hf c_1
      refine lv_aload_n hx hb d_Model_behindFree_10 rfl (lv_at hl 0 rfl) ?_
      refine va_get (D := D) (ci := 8) (v := .ref (ad 30)) (C := R_Model) (T := F_Model) (N := 30) hx hb hts hn_Model hown hK hP 0 rfl rfl 2 (by decide) hL7 (fun _ h9 => h9) rfl d_Model_behindFree_11 ?_
      refine lv_iload_n hx hb d_Model_behindFree_14 rfl (lv_at hl 2 rfl) ?_
      obtain ⟨hi_2, hf⟩ := q_ck hf
      refine va_zald hx hb hK hP 1 2 rfl rfl hi_2 d_Model_behindFree_15 ?_
      refine lv_if_eq (tgt := 25) hx hb d_Model_behindFree_16 (by decide) (fun c_3 => ?_) (fun c_3 => ?_)
      · replace hf := q_it hf c_3
        refine lv_iload_n hx hb d_Model_behindFree_25 rfl (lv_at hl 2 rfl) ?_
        cases hf
        first | exact W.iret (v := x2) hx hb hr (fun t ht hW => ⟨rfl, ht⟩) (fun q h => nomatch h) d_Model_behindFree_26 | exact W.iret (v := r) hx hb hr (fun t ht hW => ⟨rfl, ht⟩) (fun q h => nomatch h) d_Model_behindFree_26
      replace hf := q_ie hf c_3
      refine lv_iinc (v := (x2 + 1)) (lv' := [(2, .int (x2 + 1)), (0, .ref (ad 29)), (1, .int x1)]) hx hb d_Model_behindFree_19 hl (k := 2) rfl rfl (by decide) rfl (fun ls hl => ?_)
      refine lv_goto (tgt := 2) hx hb d_Model_behindFree_22 (by decide) ?_
      exact (ih) x1 (x2 + 1) hf ls (lv_sub hl [1, 2, 0] rfl)
  unfold f_Model_behindFree at hf
  refine lv_iload_n hx hb d_Model_behindFree_0 rfl (lv_at hl 1 rfl) ?_
  refine lv_istore_n (lv' := [(2, .int p1), (0, .ref (ad 29)), (1, .int p1)]) hx hb d_Model_behindFree_1 rfl hl (by decide) rfl (fun ls hl => ?_)
  exact (key N) p1 p1 hf ls (lv_sub hl [1, 2, 0] rfl)
