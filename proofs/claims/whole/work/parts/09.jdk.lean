def f_Arrays_fill_IIV_cut (N : Nat) (n_pbo : Nat) : Nat → Nat → Int32 → Int32 → Int32 → (Nat → Int32) → Option ((Nat → Int32))
  | 0, _, _, _, _, _ => none
  | n + 1, t, x1, x2, x3, v_pbo => (if x3 ≤ x2 then (some v_pbo) else (if x2 < 0 ∨ n_pbo ≤ Int32.toNatClampNeg x2 then none else (f_Arrays_fill_IIV_cut N n_pbo n 0 x1 (x2 + 1) x3 (upd v_pbo (Int32.toNatClampNeg x2) x1))))
theorem f_Arrays_fill_IIV_cut_0 (N : Nat) (n_pbo : Nat) (n : Nat) (x1 : Int32) (x2 : Int32) (x3 : Int32) (v_pbo : Nat → Int32) : f_Arrays_fill_IIV_cut N n_pbo (n + 1) 0 x1 x2 x3 v_pbo = (if x3 ≤ x2 then (some v_pbo) else (if x2 < 0 ∨ n_pbo ≤ Int32.toNatClampNeg x2 then none else (f_Arrays_fill_IIV_cut N n_pbo n 0 x1 (x2 + 1) x3 (upd v_pbo (Int32.toNatClampNeg x2) x1)))) := rfl
def f_Arrays_fill_IIV (N : Nat) (n_pbo : Nat) (v_pbo : Nat → Int32) (p2 : Int32) : Option ((Nat → Int32)) := (f_Arrays_fill_IIV_cut N n_pbo N 0 p2 0 (Int32.ofNat n_pbo) v_pbo)
set_option maxRecDepth 100000 in
set_option maxHeartbeats 4000000 in
theorem c_Arrays_fill_IIV (l : Launch) (D : va_G) (ad : Nat → Nat) (ki : Nat → ClassId) (n_pbo : Nat) (v_pbo : Nat → Int32) (p2 : Int32) (N : Nat) (sz : Nat) (ov_pbo : Nat → Int32) (hf : f_Arrays_fill_IIV N n_pbo v_pbo p2 = some ov_pbo) : Met l y_Arrays_fill_IIV w_Arrays_fill_IIV { frames := 0, cells := 0, slots := 0, locals := 0 } (q_PcM [.ref (ad 24), .int p2] D vwCl [(ad 24, .inl (ki 0, n_pbo, .inl v_pbo))] (TYS ki) sz) (q_Qm (none) D vwCl [(ad 24, .inl (ki 0, n_pbo, .inl ov_pbo))] (va_A [(ad 24, .inl (ki 0, n_pbo, .inl v_pbo))] sz)) 0 0 (va_A [(ad 24, .inl (ki 0, n_pbo, .inl v_pbo))] sz) := by
  refine Met.ofW (cc := b_Arrays_fill_IIV) (maxL := 4) (ret := none) (by decide) rfl ?_
  intro p e s m args below meth c s₁ B hml hv
  obtain ⟨rfl, hsz, hP, hK, hD0, hE⟩ := hv
  have hx := B.exec
  have hb := B.bytes
  have hr := B.returns
  have hts := atoms_spec (ws := w_Arrays_fill_IIV) B.pre
  have hown : s.vm.findClass R_Arrays = some m.cls := findClass_of_methodNamed B.named
  have hlocks := B.notSynchronized
  subst hsz
  have hD := hD0.self (sz := s.heap.size)
  generalize hAe : va_A [(ad 24, .inl (ki 0, n_pbo, .inl v_pbo))] s.heap.size = A at hD ⊢
  have hA : ∀ q : Nat, s.heap.size ≤ q → A q := fun q h => by rw [← hAe]; exact Or.inr h
  have hS : va_S A s.heap s.heap [] := va_S.rf
  replace hP : va_P D vwCl [(ad 24, .inl (ki 0, n_pbo, .inl v_pbo))] s.heap := hP
  have hl := lv_entry ([.ref (ad 24), .int p2]) (n := 4) (Nat.le_of_ble_eq_true rfl)
  rw [lg_entry_eq]
  generalize (lg_sl ([.ref (ad 24), .int p2]) ++ List.replicate (4 - (lg_sl ([.ref (ad 24), .int p2])).length) Slot.unset).toArray = ls at hl ⊢
  replace hl : lv_has ls 4 [(0, .ref (ad 24)), (1, .int p2)] := hl
  have key : ∀ n : Nat, (∀ (x1 : Int32) (x2 : Int32) (x3 : Int32) (v_pbo : Nat → Int32), f_Arrays_fill_IIV_cut N n_pbo n 0 x1 x2 x3 v_pbo = some ov_pbo → ∀ (H : Heap) (locs : List Loc), va_P D vwCl [(ad 24, .inl (ki 0, n_pbo, .inl v_pbo))] H → va_D A [(ad 24, .inl (ki 0, n_pbo, .inl v_pbo))] → va_S A s.heap H locs → ∀ (ls : Array Slot), lv_has ls 4 [(0, .ref (ad 24)), (1, .int x1), (2, .int x2), (3, .int x3)] → W p l e (headSpec w_Arrays_fill_IIV { frames := 0, cells := 0, slots := 0, locals := 0 }).room s m ([.ref (ad 24), .int p2] : List Value).toArray below meth c H locs 0 0 (MQ below (q_Qm (none) D vwCl [(ad 24, .inl (ki 0, n_pbo, .inl ov_pbo))] A) ([.ref (ad 24), .int p2] : List Value).toArray s 0 0 A) (F0 m 5 ls [])) := by
    intro n
    induction n with
    | zero =>
      exact fun x1 x2 x3 v_pbo hf => (nomatch (show none = some _ from hf))
    | succ n ih =>
      intro x1 x2 x3 v_pbo hf H locs hP hD hS ls hl
      rw [f_Arrays_fill_IIV_cut_0] at hf
      refine lv_iload_n hx hb d_Arrays_fill_IIV_5 rfl (lv_at hl 2 rfl) ?_
      refine lv_iload_n hx hb d_Arrays_fill_IIV_6 rfl (lv_at hl 3 rfl) ?_
      refine lv_icmp_ge (tgt := 20) hx hb d_Arrays_fill_IIV_7 (by decide) (fun c_1 => ?_) (fun c_1 => ?_)
      · replace hf := q_it hf c_1
        cases hf
        exact W.vret hx hb hr (fun t ht hW => ⟨rfl, by rw [ht]; exact hP, hS.F ht⟩) hS.2.2 d_Arrays_fill_IIV_20
      replace hf := q_ie hf c_1
      refine lv_aload_n hx hb d_Arrays_fill_IIV_10 rfl (lv_at hl 0 rfl) ?_
      refine lv_iload_n hx hb d_Arrays_fill_IIV_11 rfl (lv_at hl 2 rfl) ?_
      refine lv_iload_n hx hb d_Arrays_fill_IIV_12 rfl (lv_at hl 1 rfl) ?_
      obtain ⟨hi_2, hf⟩ := q_ck hf
      refine va_iast hx hb hK hP hD hS 0 0 rfl rfl hi_2 d_Arrays_fill_IIV_13 (fun H locs hP hD hS => ?_)
      replace hP : va_P D vwCl [(ad 24, .inl (ki 0, n_pbo, .inl (upd v_pbo (Int32.toNatClampNeg x2) x1)))] H := hP
      replace hD : va_D A [(ad 24, .inl (ki 0, n_pbo, .inl (upd v_pbo (Int32.toNatClampNeg x2) x1)))] := hD
      refine lv_iinc (v := (x2 + 1)) (lv' := [(2, .int (x2 + 1)), (0, .ref (ad 24)), (1, .int x1), (3, .int x3)]) hx hb d_Arrays_fill_IIV_14 hl (k := 2) rfl rfl (by decide) rfl (fun ls hl => ?_)
      refine lv_goto (tgt := 5) hx hb d_Arrays_fill_IIV_17 (by decide) ?_
      exact (ih) x1 (x2 + 1) x3 (upd v_pbo (Int32.toNatClampNeg x2) x1) hf _ _ hP hD hS ls (lv_sub hl [1, 2, 0, 3] rfl)
  unfold f_Arrays_fill_IIV at hf
  refine lv_iconst (v := 0) hx hb d_Arrays_fill_IIV_0 (by decide) ?_
  refine lv_istore_n (lv' := [(2, .int 0), (0, .ref (ad 24)), (1, .int p2)]) hx hb d_Arrays_fill_IIV_1 rfl hl (by decide) rfl (fun ls hl => ?_)
  refine lv_aload_n hx hb d_Arrays_fill_IIV_2 rfl (lv_at hl 1 rfl) ?_
  refine va_alen hx hb hK hP 0 0 rfl rfl (v := Int32.ofNat n_pbo) rfl d_Arrays_fill_IIV_3 ?_
  refine lv_istore_n (lv' := [(3, .int (Int32.ofNat n_pbo)), (2, .int 0), (0, .ref (ad 24)), (1, .int p2)]) hx hb d_Arrays_fill_IIV_4 rfl hl (by decide) rfl (fun ls hl => ?_)
  exact (key N) p2 0 (Int32.ofNat n_pbo) v_pbo hf _ _ hP hD hS ls (lv_sub hl [2, 3, 1, 0] rfl)
def f_Arrays_fill_JJV_cut (N : Nat) (n_tval : Nat) : Nat → Nat → Int64 → Int32 → Int32 → (Nat → Int64) → Option ((Nat → Int64))
  | 0, _, _, _, _, _ => none
  | n + 1, t, x1, x3, x4, v_tval => (if x4 ≤ x3 then (some v_tval) else (if x3 < 0 ∨ n_tval ≤ Int32.toNatClampNeg x3 then none else (f_Arrays_fill_JJV_cut N n_tval n 0 x1 (x3 + 1) x4 (vp_updL v_tval (Int32.toNatClampNeg x3) x1))))
theorem f_Arrays_fill_JJV_cut_0 (N : Nat) (n_tval : Nat) (n : Nat) (x1 : Int64) (x3 : Int32) (x4 : Int32) (v_tval : Nat → Int64) : f_Arrays_fill_JJV_cut N n_tval (n + 1) 0 x1 x3 x4 v_tval = (if x4 ≤ x3 then (some v_tval) else (if x3 < 0 ∨ n_tval ≤ Int32.toNatClampNeg x3 then none else (f_Arrays_fill_JJV_cut N n_tval n 0 x1 (x3 + 1) x4 (vp_updL v_tval (Int32.toNatClampNeg x3) x1)))) := rfl
def f_Arrays_fill_JJV (N : Nat) (n_tval : Nat) (v_tval : Nat → Int64) (p2 : Int64) : Option ((Nat → Int64)) := (f_Arrays_fill_JJV_cut N n_tval N 0 p2 0 (Int32.ofNat n_tval) v_tval)
set_option maxRecDepth 100000 in
set_option maxHeartbeats 4000000 in
theorem c_Arrays_fill_JJV (l : Launch) (D : va_G) (ad : Nat → Nat) (ki : Nat → ClassId) (n_tval : Nat) (v_tval : Nat → Int64) (p2 : Int64) (N : Nat) (sz : Nat) (ov_tval : Nat → Int64) (hf : f_Arrays_fill_JJV N n_tval v_tval p2 = some ov_tval) : Met l y_Arrays_fill_JJV w_Arrays_fill_JJV { frames := 0, cells := 0, slots := 0, locals := 0 } (q_PcM [.ref (ad 15), .long p2] D vwCl [(ad 15, .inl (ki 1, n_tval, .inr (.inl v_tval)))] (TYS ki) sz) (q_Qm (none) D vwCl [(ad 15, .inl (ki 1, n_tval, .inr (.inl ov_tval)))] (va_A [(ad 15, .inl (ki 1, n_tval, .inr (.inl v_tval)))] sz)) 0 0 (va_A [(ad 15, .inl (ki 1, n_tval, .inr (.inl v_tval)))] sz) := by
  refine Met.ofW (cc := b_Arrays_fill_JJV) (maxL := 5) (ret := none) (by decide) rfl ?_
  intro p e s m args below meth c s₁ B hml hv
  obtain ⟨rfl, hsz, hP, hK, hD0, hE⟩ := hv
  have hx := B.exec
  have hb := B.bytes
  have hr := B.returns
  have hts := atoms_spec (ws := w_Arrays_fill_JJV) B.pre
  have hown : s.vm.findClass R_Arrays = some m.cls := findClass_of_methodNamed B.named
  have hlocks := B.notSynchronized
  subst hsz
  have hD := hD0.self (sz := s.heap.size)
  generalize hAe : va_A [(ad 15, .inl (ki 1, n_tval, .inr (.inl v_tval)))] s.heap.size = A at hD ⊢
  have hA : ∀ q : Nat, s.heap.size ≤ q → A q := fun q h => by rw [← hAe]; exact Or.inr h
  have hS : va_S A s.heap s.heap [] := va_S.rf
  replace hP : va_P D vwCl [(ad 15, .inl (ki 1, n_tval, .inr (.inl v_tval)))] s.heap := hP
  have hl := lv_entry ([.ref (ad 15), .long p2]) (n := 5) (Nat.le_of_ble_eq_true rfl)
  rw [lg_entry_eq]
  generalize (lg_sl ([.ref (ad 15), .long p2]) ++ List.replicate (5 - (lg_sl ([.ref (ad 15), .long p2])).length) Slot.unset).toArray = ls at hl ⊢
  replace hl : lv_has ls 5 [(0, .ref (ad 15)), (1, .long p2)] := hl
  have key : ∀ n : Nat, (∀ (x1 : Int64) (x3 : Int32) (x4 : Int32) (v_tval : Nat → Int64), f_Arrays_fill_JJV_cut N n_tval n 0 x1 x3 x4 v_tval = some ov_tval → ∀ (H : Heap) (locs : List Loc), va_P D vwCl [(ad 15, .inl (ki 1, n_tval, .inr (.inl v_tval)))] H → va_D A [(ad 15, .inl (ki 1, n_tval, .inr (.inl v_tval)))] → va_S A s.heap H locs → ∀ (ls : Array Slot), lv_has ls 5 [(0, .ref (ad 15)), (1, .long x1), (3, .int x3), (4, .int x4)] → W p l e (headSpec w_Arrays_fill_JJV { frames := 0, cells := 0, slots := 0, locals := 0 }).room s m ([.ref (ad 15), .long p2] : List Value).toArray below meth c H locs 0 0 (MQ below (q_Qm (none) D vwCl [(ad 15, .inl (ki 1, n_tval, .inr (.inl ov_tval)))] A) ([.ref (ad 15), .long p2] : List Value).toArray s 0 0 A) (F0 m 6 ls [])) := by
    intro n
    induction n with
    | zero =>
      exact fun x1 x3 x4 v_tval hf => (nomatch (show none = some _ from hf))
    | succ n ih =>
      intro x1 x3 x4 v_tval hf H locs hP hD hS ls hl
      rw [f_Arrays_fill_JJV_cut_0] at hf
      refine lv_iload_n hx hb d_Arrays_fill_JJV_6 rfl (lv_at hl 2 rfl) ?_
      refine lv_iload hx hb d_Arrays_fill_JJV_7 (lv_at hl 3 rfl) ?_
      refine lv_icmp_ge (tgt := 22) hx hb d_Arrays_fill_JJV_9 (by decide) (fun c_1 => ?_) (fun c_1 => ?_)
      · replace hf := q_it hf c_1
        cases hf
        exact W.vret hx hb hr (fun t ht hW => ⟨rfl, by rw [ht]; exact hP, hS.F ht⟩) hS.2.2 d_Arrays_fill_JJV_22
      replace hf := q_ie hf c_1
      refine lv_aload_n hx hb d_Arrays_fill_JJV_12 rfl (lv_at hl 0 rfl) ?_
      refine lv_iload_n hx hb d_Arrays_fill_JJV_13 rfl (lv_at hl 2 rfl) ?_
      refine lv_lload_n hx hb d_Arrays_fill_JJV_14 rfl (lv_at hl 1 rfl) ?_
      obtain ⟨hi_2, hf⟩ := q_ck hf
      refine va_last hx hb hK hP hD hS 0 1 rfl rfl hi_2 d_Arrays_fill_JJV_15 (fun H locs hP hD hS => ?_)
      replace hP : va_P D vwCl [(ad 15, .inl (ki 1, n_tval, .inr (.inl (vp_updL v_tval (Int32.toNatClampNeg x3) x1))))] H := hP
      replace hD : va_D A [(ad 15, .inl (ki 1, n_tval, .inr (.inl (vp_updL v_tval (Int32.toNatClampNeg x3) x1))))] := hD
      refine lv_iinc (v := (x3 + 1)) (lv' := [(3, .int (x3 + 1)), (0, .ref (ad 15)), (1, .long x1), (4, .int x4)]) hx hb d_Arrays_fill_JJV_16 hl (k := 2) rfl rfl (by decide) rfl (fun ls hl => ?_)
      refine lv_goto (tgt := 6) hx hb d_Arrays_fill_JJV_19 (by decide) ?_
      exact (ih) x1 (x3 + 1) x4 (vp_updL v_tval (Int32.toNatClampNeg x3) x1) hf _ _ hP hD hS ls (lv_sub hl [1, 2, 0, 3] rfl)
  unfold f_Arrays_fill_JJV at hf
  refine lv_iconst (v := 0) hx hb d_Arrays_fill_JJV_0 (by decide) ?_
  refine lv_istore_n (lv' := [(3, .int 0), (0, .ref (ad 15)), (1, .long p2)]) hx hb d_Arrays_fill_JJV_1 rfl hl (by decide) rfl (fun ls hl => ?_)
  refine lv_aload_n hx hb d_Arrays_fill_JJV_2 rfl (lv_at hl 1 rfl) ?_
  refine va_alen hx hb hK hP 0 1 rfl rfl (v := Int32.ofNat n_tval) rfl d_Arrays_fill_JJV_3 ?_
  refine lv_istore (lv' := [(4, .int (Int32.ofNat n_tval)), (3, .int 0), (0, .ref (ad 15)), (1, .long p2)]) hx hb d_Arrays_fill_JJV_4 hl (by decide) rfl (fun ls hl => ?_)
  exact (key N) p2 0 (Int32.ofNat n_tval) v_tval hf _ _ hP hD hS ls (lv_sub hl [2, 3, 1, 0] rfl)
def f_Integer_bitCount (N : Nat)  (p1 : Int32) : Option (Int32) := (some ((((((((p1 - ((Int32.toUInt32 p1 >>> (Int32.toUInt32 1 &&& Int32.toUInt32 31)).toInt32 &&& 1431655765)) &&& 858993459) + ((Int32.toUInt32 (p1 - ((Int32.toUInt32 p1 >>> (Int32.toUInt32 1 &&& Int32.toUInt32 31)).toInt32 &&& 1431655765)) >>> (Int32.toUInt32 2 &&& Int32.toUInt32 31)).toInt32 &&& 858993459)) + (Int32.toUInt32 (((p1 - ((Int32.toUInt32 p1 >>> (Int32.toUInt32 1 &&& Int32.toUInt32 31)).toInt32 &&& 1431655765)) &&& 858993459) + ((Int32.toUInt32 (p1 - ((Int32.toUInt32 p1 >>> (Int32.toUInt32 1 &&& Int32.toUInt32 31)).toInt32 &&& 1431655765)) >>> (Int32.toUInt32 2 &&& Int32.toUInt32 31)).toInt32 &&& 858993459)) >>> (Int32.toUInt32 4 &&& Int32.toUInt32 31)).toInt32) &&& 252645135) + (Int32.toUInt32 (((((p1 - ((Int32.toUInt32 p1 >>> (Int32.toUInt32 1 &&& Int32.toUInt32 31)).toInt32 &&& 1431655765)) &&& 858993459) + ((Int32.toUInt32 (p1 - ((Int32.toUInt32 p1 >>> (Int32.toUInt32 1 &&& Int32.toUInt32 31)).toInt32 &&& 1431655765)) >>> (Int32.toUInt32 2 &&& Int32.toUInt32 31)).toInt32 &&& 858993459)) + (Int32.toUInt32 (((p1 - ((Int32.toUInt32 p1 >>> (Int32.toUInt32 1 &&& Int32.toUInt32 31)).toInt32 &&& 1431655765)) &&& 858993459) + ((Int32.toUInt32 (p1 - ((Int32.toUInt32 p1 >>> (Int32.toUInt32 1 &&& Int32.toUInt32 31)).toInt32 &&& 1431655765)) >>> (Int32.toUInt32 2 &&& Int32.toUInt32 31)).toInt32 &&& 858993459)) >>> (Int32.toUInt32 4 &&& Int32.toUInt32 31)).toInt32) &&& 252645135) >>> (Int32.toUInt32 8 &&& Int32.toUInt32 31)).toInt32) + (Int32.toUInt32 ((((((p1 - ((Int32.toUInt32 p1 >>> (Int32.toUInt32 1 &&& Int32.toUInt32 31)).toInt32 &&& 1431655765)) &&& 858993459) + ((Int32.toUInt32 (p1 - ((Int32.toUInt32 p1 >>> (Int32.toUInt32 1 &&& Int32.toUInt32 31)).toInt32 &&& 1431655765)) >>> (Int32.toUInt32 2 &&& Int32.toUInt32 31)).toInt32 &&& 858993459)) + (Int32.toUInt32 (((p1 - ((Int32.toUInt32 p1 >>> (Int32.toUInt32 1 &&& Int32.toUInt32 31)).toInt32 &&& 1431655765)) &&& 858993459) + ((Int32.toUInt32 (p1 - ((Int32.toUInt32 p1 >>> (Int32.toUInt32 1 &&& Int32.toUInt32 31)).toInt32 &&& 1431655765)) >>> (Int32.toUInt32 2 &&& Int32.toUInt32 31)).toInt32 &&& 858993459)) >>> (Int32.toUInt32 4 &&& Int32.toUInt32 31)).toInt32) &&& 252645135) + (Int32.toUInt32 (((((p1 - ((Int32.toUInt32 p1 >>> (Int32.toUInt32 1 &&& Int32.toUInt32 31)).toInt32 &&& 1431655765)) &&& 858993459) + ((Int32.toUInt32 (p1 - ((Int32.toUInt32 p1 >>> (Int32.toUInt32 1 &&& Int32.toUInt32 31)).toInt32 &&& 1431655765)) >>> (Int32.toUInt32 2 &&& Int32.toUInt32 31)).toInt32 &&& 858993459)) + (Int32.toUInt32 (((p1 - ((Int32.toUInt32 p1 >>> (Int32.toUInt32 1 &&& Int32.toUInt32 31)).toInt32 &&& 1431655765)) &&& 858993459) + ((Int32.toUInt32 (p1 - ((Int32.toUInt32 p1 >>> (Int32.toUInt32 1 &&& Int32.toUInt32 31)).toInt32 &&& 1431655765)) >>> (Int32.toUInt32 2 &&& Int32.toUInt32 31)).toInt32 &&& 858993459)) >>> (Int32.toUInt32 4 &&& Int32.toUInt32 31)).toInt32) &&& 252645135) >>> (Int32.toUInt32 8 &&& Int32.toUInt32 31)).toInt32) >>> (Int32.toUInt32 16 &&& Int32.toUInt32 31)).toInt32) &&& 63))
set_option maxRecDepth 100000 in
set_option maxHeartbeats 4000000 in
theorem c_Integer_bitCount (l : Launch) (D : va_G) (ad : Nat → Nat) (ki : Nat → ClassId)  (p1 : Int32) (N : Nat) (r : Int32) (hf : f_Integer_bitCount N p1 = some r) : Met l y_Integer_bitCount w_Integer_bitCount { frames := 0, cells := 0, slots := 0, locals := 0 } (q_PcP [.int p1] D vwCl [] (TYS ki)) (k2_QcV (.int r)) 0 0 (fun _ => False) := by
  refine Met.ofW (cc := b_Integer_bitCount) (maxL := 1) (ret := (some .int)) (by decide) rfl ?_
  intro p e s m args below meth c s₁ B hml hv
  obtain ⟨rfl, hP, hK, hE⟩ := hv
  have hx := B.exec
  have hb := B.bytes
  have hr := B.returns
  have hts := atoms_spec (ws := w_Integer_bitCount) B.pre
  have hown : s.vm.findClass R_Integer = some m.cls := findClass_of_methodNamed B.named
  have hlocks := B.notSynchronized
  have hL265 := hts (.constant R_Integer 265 (1431655765)) (List.mem_cons_of_mem _ m_414)
  have hL266 := hts (.constant R_Integer 266 (858993459)) (List.mem_cons_of_mem _ m_415)
  have hL267 := hts (.constant R_Integer 267 (252645135)) (List.mem_cons_of_mem _ m_416)
  replace hP : va_P D vwCl [] s.heap := hP
  have hl := lv_entry ([.int p1]) (n := 1) (Nat.le_of_ble_eq_true rfl)
  rw [lg_entry_eq]
  generalize (lg_sl ([.int p1]) ++ List.replicate (1 - (lg_sl ([.int p1])).length) Slot.unset).toArray = ls at hl ⊢
  replace hl : lv_has ls 1 [(0, .int p1)] := hl
  unfold f_Integer_bitCount at hf
  refine lv_iload_n hx hb d_Integer_bitCount_0 rfl (lv_at hl 0 rfl) ?_
  refine lv_iload_n hx hb d_Integer_bitCount_1 rfl (lv_at hl 0 rfl) ?_
  refine lv_iconst (v := 1) hx hb d_Integer_bitCount_2 (by decide) ?_
  refine lv_iushr (v := (Int32.toUInt32 p1 >>> (Int32.toUInt32 1 &&& Int32.toUInt32 31)).toInt32) hx hb d_Integer_bitCount_3 rfl ?_
  refine lv_ldcw (v := 1431655765) hx hb hown hL265 d_Integer_bitCount_4 ?_
  refine lv_iand hx hb d_Integer_bitCount_7 ?_
  refine lv_isub hx hb d_Integer_bitCount_8 ?_
  refine lv_istore_n (lv' := [(0, .int (p1 - ((Int32.toUInt32 p1 >>> (Int32.toUInt32 1 &&& Int32.toUInt32 31)).toInt32 &&& 1431655765)))]) hx hb d_Integer_bitCount_9 rfl hl (by decide) rfl (fun ls hl => ?_)
  refine lv_iload_n hx hb d_Integer_bitCount_10 rfl (lv_at hl 0 rfl) ?_
  refine lv_ldcw (v := 858993459) hx hb hown hL266 d_Integer_bitCount_11 ?_
  refine lv_iand hx hb d_Integer_bitCount_14 ?_
  refine lv_iload_n hx hb d_Integer_bitCount_15 rfl (lv_at hl 0 rfl) ?_
  refine lv_iconst (v := 2) hx hb d_Integer_bitCount_16 (by decide) ?_
  refine lv_iushr (v := (Int32.toUInt32 (p1 - ((Int32.toUInt32 p1 >>> (Int32.toUInt32 1 &&& Int32.toUInt32 31)).toInt32 &&& 1431655765)) >>> (Int32.toUInt32 2 &&& Int32.toUInt32 31)).toInt32) hx hb d_Integer_bitCount_17 rfl ?_
  refine lv_ldcw (v := 858993459) hx hb hown hL266 d_Integer_bitCount_18 ?_
  refine lv_iand hx hb d_Integer_bitCount_21 ?_
  refine lv_iadd hx hb d_Integer_bitCount_22 ?_
  refine lv_istore_n (lv' := [(0, .int (((p1 - ((Int32.toUInt32 p1 >>> (Int32.toUInt32 1 &&& Int32.toUInt32 31)).toInt32 &&& 1431655765)) &&& 858993459) + ((Int32.toUInt32 (p1 - ((Int32.toUInt32 p1 >>> (Int32.toUInt32 1 &&& Int32.toUInt32 31)).toInt32 &&& 1431655765)) >>> (Int32.toUInt32 2 &&& Int32.toUInt32 31)).toInt32 &&& 858993459)))]) hx hb d_Integer_bitCount_23 rfl hl (by decide) rfl (fun ls hl => ?_)
  refine lv_iload_n hx hb d_Integer_bitCount_24 rfl (lv_at hl 0 rfl) ?_
  refine lv_iload_n hx hb d_Integer_bitCount_25 rfl (lv_at hl 0 rfl) ?_
  refine lv_iconst (v := 4) hx hb d_Integer_bitCount_26 (by decide) ?_
  refine lv_iushr (v := (Int32.toUInt32 (((p1 - ((Int32.toUInt32 p1 >>> (Int32.toUInt32 1 &&& Int32.toUInt32 31)).toInt32 &&& 1431655765)) &&& 858993459) + ((Int32.toUInt32 (p1 - ((Int32.toUInt32 p1 >>> (Int32.toUInt32 1 &&& Int32.toUInt32 31)).toInt32 &&& 1431655765)) >>> (Int32.toUInt32 2 &&& Int32.toUInt32 31)).toInt32 &&& 858993459)) >>> (Int32.toUInt32 4 &&& Int32.toUInt32 31)).toInt32) hx hb d_Integer_bitCount_27 rfl ?_
  refine lv_iadd hx hb d_Integer_bitCount_28 ?_
  refine lv_ldcw (v := 252645135) hx hb hown hL267 d_Integer_bitCount_29 ?_
  refine lv_iand hx hb d_Integer_bitCount_32 ?_
  refine lv_istore_n (lv' := [(0, .int (((((p1 - ((Int32.toUInt32 p1 >>> (Int32.toUInt32 1 &&& Int32.toUInt32 31)).toInt32 &&& 1431655765)) &&& 858993459) + ((Int32.toUInt32 (p1 - ((Int32.toUInt32 p1 >>> (Int32.toUInt32 1 &&& Int32.toUInt32 31)).toInt32 &&& 1431655765)) >>> (Int32.toUInt32 2 &&& Int32.toUInt32 31)).toInt32 &&& 858993459)) + (Int32.toUInt32 (((p1 - ((Int32.toUInt32 p1 >>> (Int32.toUInt32 1 &&& Int32.toUInt32 31)).toInt32 &&& 1431655765)) &&& 858993459) + ((Int32.toUInt32 (p1 - ((Int32.toUInt32 p1 >>> (Int32.toUInt32 1 &&& Int32.toUInt32 31)).toInt32 &&& 1431655765)) >>> (Int32.toUInt32 2 &&& Int32.toUInt32 31)).toInt32 &&& 858993459)) >>> (Int32.toUInt32 4 &&& Int32.toUInt32 31)).toInt32) &&& 252645135))]) hx hb d_Integer_bitCount_33 rfl hl (by decide) rfl (fun ls hl => ?_)
  refine lv_iload_n hx hb d_Integer_bitCount_34 rfl (lv_at hl 0 rfl) ?_
  refine lv_iload_n hx hb d_Integer_bitCount_35 rfl (lv_at hl 0 rfl) ?_
  refine lv_bipush (v := 8) hx hb d_Integer_bitCount_36 (by decide) ?_
  refine lv_iushr (v := (Int32.toUInt32 (((((p1 - ((Int32.toUInt32 p1 >>> (Int32.toUInt32 1 &&& Int32.toUInt32 31)).toInt32 &&& 1431655765)) &&& 858993459) + ((Int32.toUInt32 (p1 - ((Int32.toUInt32 p1 >>> (Int32.toUInt32 1 &&& Int32.toUInt32 31)).toInt32 &&& 1431655765)) >>> (Int32.toUInt32 2 &&& Int32.toUInt32 31)).toInt32 &&& 858993459)) + (Int32.toUInt32 (((p1 - ((Int32.toUInt32 p1 >>> (Int32.toUInt32 1 &&& Int32.toUInt32 31)).toInt32 &&& 1431655765)) &&& 858993459) + ((Int32.toUInt32 (p1 - ((Int32.toUInt32 p1 >>> (Int32.toUInt32 1 &&& Int32.toUInt32 31)).toInt32 &&& 1431655765)) >>> (Int32.toUInt32 2 &&& Int32.toUInt32 31)).toInt32 &&& 858993459)) >>> (Int32.toUInt32 4 &&& Int32.toUInt32 31)).toInt32) &&& 252645135) >>> (Int32.toUInt32 8 &&& Int32.toUInt32 31)).toInt32) hx hb d_Integer_bitCount_38 rfl ?_
  refine lv_iadd hx hb d_Integer_bitCount_39 ?_
  refine lv_istore_n (lv' := [(0, .int ((((((p1 - ((Int32.toUInt32 p1 >>> (Int32.toUInt32 1 &&& Int32.toUInt32 31)).toInt32 &&& 1431655765)) &&& 858993459) + ((Int32.toUInt32 (p1 - ((Int32.toUInt32 p1 >>> (Int32.toUInt32 1 &&& Int32.toUInt32 31)).toInt32 &&& 1431655765)) >>> (Int32.toUInt32 2 &&& Int32.toUInt32 31)).toInt32 &&& 858993459)) + (Int32.toUInt32 (((p1 - ((Int32.toUInt32 p1 >>> (Int32.toUInt32 1 &&& Int32.toUInt32 31)).toInt32 &&& 1431655765)) &&& 858993459) + ((Int32.toUInt32 (p1 - ((Int32.toUInt32 p1 >>> (Int32.toUInt32 1 &&& Int32.toUInt32 31)).toInt32 &&& 1431655765)) >>> (Int32.toUInt32 2 &&& Int32.toUInt32 31)).toInt32 &&& 858993459)) >>> (Int32.toUInt32 4 &&& Int32.toUInt32 31)).toInt32) &&& 252645135) + (Int32.toUInt32 (((((p1 - ((Int32.toUInt32 p1 >>> (Int32.toUInt32 1 &&& Int32.toUInt32 31)).toInt32 &&& 1431655765)) &&& 858993459) + ((Int32.toUInt32 (p1 - ((Int32.toUInt32 p1 >>> (Int32.toUInt32 1 &&& Int32.toUInt32 31)).toInt32 &&& 1431655765)) >>> (Int32.toUInt32 2 &&& Int32.toUInt32 31)).toInt32 &&& 858993459)) + (Int32.toUInt32 (((p1 - ((Int32.toUInt32 p1 >>> (Int32.toUInt32 1 &&& Int32.toUInt32 31)).toInt32 &&& 1431655765)) &&& 858993459) + ((Int32.toUInt32 (p1 - ((Int32.toUInt32 p1 >>> (Int32.toUInt32 1 &&& Int32.toUInt32 31)).toInt32 &&& 1431655765)) >>> (Int32.toUInt32 2 &&& Int32.toUInt32 31)).toInt32 &&& 858993459)) >>> (Int32.toUInt32 4 &&& Int32.toUInt32 31)).toInt32) &&& 252645135) >>> (Int32.toUInt32 8 &&& Int32.toUInt32 31)).toInt32))]) hx hb d_Integer_bitCount_40 rfl hl (by decide) rfl (fun ls hl => ?_)
  refine lv_iload_n hx hb d_Integer_bitCount_41 rfl (lv_at hl 0 rfl) ?_
  refine lv_iload_n hx hb d_Integer_bitCount_42 rfl (lv_at hl 0 rfl) ?_
  refine lv_bipush (v := 16) hx hb d_Integer_bitCount_43 (by decide) ?_
  refine lv_iushr (v := (Int32.toUInt32 ((((((p1 - ((Int32.toUInt32 p1 >>> (Int32.toUInt32 1 &&& Int32.toUInt32 31)).toInt32 &&& 1431655765)) &&& 858993459) + ((Int32.toUInt32 (p1 - ((Int32.toUInt32 p1 >>> (Int32.toUInt32 1 &&& Int32.toUInt32 31)).toInt32 &&& 1431655765)) >>> (Int32.toUInt32 2 &&& Int32.toUInt32 31)).toInt32 &&& 858993459)) + (Int32.toUInt32 (((p1 - ((Int32.toUInt32 p1 >>> (Int32.toUInt32 1 &&& Int32.toUInt32 31)).toInt32 &&& 1431655765)) &&& 858993459) + ((Int32.toUInt32 (p1 - ((Int32.toUInt32 p1 >>> (Int32.toUInt32 1 &&& Int32.toUInt32 31)).toInt32 &&& 1431655765)) >>> (Int32.toUInt32 2 &&& Int32.toUInt32 31)).toInt32 &&& 858993459)) >>> (Int32.toUInt32 4 &&& Int32.toUInt32 31)).toInt32) &&& 252645135) + (Int32.toUInt32 (((((p1 - ((Int32.toUInt32 p1 >>> (Int32.toUInt32 1 &&& Int32.toUInt32 31)).toInt32 &&& 1431655765)) &&& 858993459) + ((Int32.toUInt32 (p1 - ((Int32.toUInt32 p1 >>> (Int32.toUInt32 1 &&& Int32.toUInt32 31)).toInt32 &&& 1431655765)) >>> (Int32.toUInt32 2 &&& Int32.toUInt32 31)).toInt32 &&& 858993459)) + (Int32.toUInt32 (((p1 - ((Int32.toUInt32 p1 >>> (Int32.toUInt32 1 &&& Int32.toUInt32 31)).toInt32 &&& 1431655765)) &&& 858993459) + ((Int32.toUInt32 (p1 - ((Int32.toUInt32 p1 >>> (Int32.toUInt32 1 &&& Int32.toUInt32 31)).toInt32 &&& 1431655765)) >>> (Int32.toUInt32 2 &&& Int32.toUInt32 31)).toInt32 &&& 858993459)) >>> (Int32.toUInt32 4 &&& Int32.toUInt32 31)).toInt32) &&& 252645135) >>> (Int32.toUInt32 8 &&& Int32.toUInt32 31)).toInt32) >>> (Int32.toUInt32 16 &&& Int32.toUInt32 31)).toInt32) hx hb d_Integer_bitCount_45 rfl ?_
  refine lv_iadd hx hb d_Integer_bitCount_46 ?_
  refine lv_istore_n (lv' := [(0, .int (((((((p1 - ((Int32.toUInt32 p1 >>> (Int32.toUInt32 1 &&& Int32.toUInt32 31)).toInt32 &&& 1431655765)) &&& 858993459) + ((Int32.toUInt32 (p1 - ((Int32.toUInt32 p1 >>> (Int32.toUInt32 1 &&& Int32.toUInt32 31)).toInt32 &&& 1431655765)) >>> (Int32.toUInt32 2 &&& Int32.toUInt32 31)).toInt32 &&& 858993459)) + (Int32.toUInt32 (((p1 - ((Int32.toUInt32 p1 >>> (Int32.toUInt32 1 &&& Int32.toUInt32 31)).toInt32 &&& 1431655765)) &&& 858993459) + ((Int32.toUInt32 (p1 - ((Int32.toUInt32 p1 >>> (Int32.toUInt32 1 &&& Int32.toUInt32 31)).toInt32 &&& 1431655765)) >>> (Int32.toUInt32 2 &&& Int32.toUInt32 31)).toInt32 &&& 858993459)) >>> (Int32.toUInt32 4 &&& Int32.toUInt32 31)).toInt32) &&& 252645135) + (Int32.toUInt32 (((((p1 - ((Int32.toUInt32 p1 >>> (Int32.toUInt32 1 &&& Int32.toUInt32 31)).toInt32 &&& 1431655765)) &&& 858993459) + ((Int32.toUInt32 (p1 - ((Int32.toUInt32 p1 >>> (Int32.toUInt32 1 &&& Int32.toUInt32 31)).toInt32 &&& 1431655765)) >>> (Int32.toUInt32 2 &&& Int32.toUInt32 31)).toInt32 &&& 858993459)) + (Int32.toUInt32 (((p1 - ((Int32.toUInt32 p1 >>> (Int32.toUInt32 1 &&& Int32.toUInt32 31)).toInt32 &&& 1431655765)) &&& 858993459) + ((Int32.toUInt32 (p1 - ((Int32.toUInt32 p1 >>> (Int32.toUInt32 1 &&& Int32.toUInt32 31)).toInt32 &&& 1431655765)) >>> (Int32.toUInt32 2 &&& Int32.toUInt32 31)).toInt32 &&& 858993459)) >>> (Int32.toUInt32 4 &&& Int32.toUInt32 31)).toInt32) &&& 252645135) >>> (Int32.toUInt32 8 &&& Int32.toUInt32 31)).toInt32) + (Int32.toUInt32 ((((((p1 - ((Int32.toUInt32 p1 >>> (Int32.toUInt32 1 &&& Int32.toUInt32 31)).toInt32 &&& 1431655765)) &&& 858993459) + ((Int32.toUInt32 (p1 - ((Int32.toUInt32 p1 >>> (Int32.toUInt32 1 &&& Int32.toUInt32 31)).toInt32 &&& 1431655765)) >>> (Int32.toUInt32 2 &&& Int32.toUInt32 31)).toInt32 &&& 858993459)) + (Int32.toUInt32 (((p1 - ((Int32.toUInt32 p1 >>> (Int32.toUInt32 1 &&& Int32.toUInt32 31)).toInt32 &&& 1431655765)) &&& 858993459) + ((Int32.toUInt32 (p1 - ((Int32.toUInt32 p1 >>> (Int32.toUInt32 1 &&& Int32.toUInt32 31)).toInt32 &&& 1431655765)) >>> (Int32.toUInt32 2 &&& Int32.toUInt32 31)).toInt32 &&& 858993459)) >>> (Int32.toUInt32 4 &&& Int32.toUInt32 31)).toInt32) &&& 252645135) + (Int32.toUInt32 (((((p1 - ((Int32.toUInt32 p1 >>> (Int32.toUInt32 1 &&& Int32.toUInt32 31)).toInt32 &&& 1431655765)) &&& 858993459) + ((Int32.toUInt32 (p1 - ((Int32.toUInt32 p1 >>> (Int32.toUInt32 1 &&& Int32.toUInt32 31)).toInt32 &&& 1431655765)) >>> (Int32.toUInt32 2 &&& Int32.toUInt32 31)).toInt32 &&& 858993459)) + (Int32.toUInt32 (((p1 - ((Int32.toUInt32 p1 >>> (Int32.toUInt32 1 &&& Int32.toUInt32 31)).toInt32 &&& 1431655765)) &&& 858993459) + ((Int32.toUInt32 (p1 - ((Int32.toUInt32 p1 >>> (Int32.toUInt32 1 &&& Int32.toUInt32 31)).toInt32 &&& 1431655765)) >>> (Int32.toUInt32 2 &&& Int32.toUInt32 31)).toInt32 &&& 858993459)) >>> (Int32.toUInt32 4 &&& Int32.toUInt32 31)).toInt32) &&& 252645135) >>> (Int32.toUInt32 8 &&& Int32.toUInt32 31)).toInt32) >>> (Int32.toUInt32 16 &&& Int32.toUInt32 31)).toInt32))]) hx hb d_Integer_bitCount_47 rfl hl (by decide) rfl (fun ls hl => ?_)
  refine lv_iload_n hx hb d_Integer_bitCount_48 rfl (lv_at hl 0 rfl) ?_
  refine lv_bipush (v := 63) hx hb d_Integer_bitCount_49 (by decide) ?_
  refine lv_iand hx hb d_Integer_bitCount_51 ?_
  cases hf
  exact W.iret (v := ((((((((p1 - ((Int32.toUInt32 p1 >>> (Int32.toUInt32 1 &&& Int32.toUInt32 31)).toInt32 &&& 1431655765)) &&& 858993459) + ((Int32.toUInt32 (p1 - ((Int32.toUInt32 p1 >>> (Int32.toUInt32 1 &&& Int32.toUInt32 31)).toInt32 &&& 1431655765)) >>> (Int32.toUInt32 2 &&& Int32.toUInt32 31)).toInt32 &&& 858993459)) + (Int32.toUInt32 (((p1 - ((Int32.toUInt32 p1 >>> (Int32.toUInt32 1 &&& Int32.toUInt32 31)).toInt32 &&& 1431655765)) &&& 858993459) + ((Int32.toUInt32 (p1 - ((Int32.toUInt32 p1 >>> (Int32.toUInt32 1 &&& Int32.toUInt32 31)).toInt32 &&& 1431655765)) >>> (Int32.toUInt32 2 &&& Int32.toUInt32 31)).toInt32 &&& 858993459)) >>> (Int32.toUInt32 4 &&& Int32.toUInt32 31)).toInt32) &&& 252645135) + (Int32.toUInt32 (((((p1 - ((Int32.toUInt32 p1 >>> (Int32.toUInt32 1 &&& Int32.toUInt32 31)).toInt32 &&& 1431655765)) &&& 858993459) + ((Int32.toUInt32 (p1 - ((Int32.toUInt32 p1 >>> (Int32.toUInt32 1 &&& Int32.toUInt32 31)).toInt32 &&& 1431655765)) >>> (Int32.toUInt32 2 &&& Int32.toUInt32 31)).toInt32 &&& 858993459)) + (Int32.toUInt32 (((p1 - ((Int32.toUInt32 p1 >>> (Int32.toUInt32 1 &&& Int32.toUInt32 31)).toInt32 &&& 1431655765)) &&& 858993459) + ((Int32.toUInt32 (p1 - ((Int32.toUInt32 p1 >>> (Int32.toUInt32 1 &&& Int32.toUInt32 31)).toInt32 &&& 1431655765)) >>> (Int32.toUInt32 2 &&& Int32.toUInt32 31)).toInt32 &&& 858993459)) >>> (Int32.toUInt32 4 &&& Int32.toUInt32 31)).toInt32) &&& 252645135) >>> (Int32.toUInt32 8 &&& Int32.toUInt32 31)).toInt32) + (Int32.toUInt32 ((((((p1 - ((Int32.toUInt32 p1 >>> (Int32.toUInt32 1 &&& Int32.toUInt32 31)).toInt32 &&& 1431655765)) &&& 858993459) + ((Int32.toUInt32 (p1 - ((Int32.toUInt32 p1 >>> (Int32.toUInt32 1 &&& Int32.toUInt32 31)).toInt32 &&& 1431655765)) >>> (Int32.toUInt32 2 &&& Int32.toUInt32 31)).toInt32 &&& 858993459)) + (Int32.toUInt32 (((p1 - ((Int32.toUInt32 p1 >>> (Int32.toUInt32 1 &&& Int32.toUInt32 31)).toInt32 &&& 1431655765)) &&& 858993459) + ((Int32.toUInt32 (p1 - ((Int32.toUInt32 p1 >>> (Int32.toUInt32 1 &&& Int32.toUInt32 31)).toInt32 &&& 1431655765)) >>> (Int32.toUInt32 2 &&& Int32.toUInt32 31)).toInt32 &&& 858993459)) >>> (Int32.toUInt32 4 &&& Int32.toUInt32 31)).toInt32) &&& 252645135) + (Int32.toUInt32 (((((p1 - ((Int32.toUInt32 p1 >>> (Int32.toUInt32 1 &&& Int32.toUInt32 31)).toInt32 &&& 1431655765)) &&& 858993459) + ((Int32.toUInt32 (p1 - ((Int32.toUInt32 p1 >>> (Int32.toUInt32 1 &&& Int32.toUInt32 31)).toInt32 &&& 1431655765)) >>> (Int32.toUInt32 2 &&& Int32.toUInt32 31)).toInt32 &&& 858993459)) + (Int32.toUInt32 (((p1 - ((Int32.toUInt32 p1 >>> (Int32.toUInt32 1 &&& Int32.toUInt32 31)).toInt32 &&& 1431655765)) &&& 858993459) + ((Int32.toUInt32 (p1 - ((Int32.toUInt32 p1 >>> (Int32.toUInt32 1 &&& Int32.toUInt32 31)).toInt32 &&& 1431655765)) >>> (Int32.toUInt32 2 &&& Int32.toUInt32 31)).toInt32 &&& 858993459)) >>> (Int32.toUInt32 4 &&& Int32.toUInt32 31)).toInt32) &&& 252645135) >>> (Int32.toUInt32 8 &&& Int32.toUInt32 31)).toInt32) >>> (Int32.toUInt32 16 &&& Int32.toUInt32 31)).toInt32) &&& 63)) hx hb hr (fun t ht hW => ⟨rfl, ht⟩) (fun q h => nomatch h) d_Integer_bitCount_52
