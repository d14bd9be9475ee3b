theorem q_31 (a : Int32) : ∃ k : Nat, k < 32 ∧ a &&& 31 = p_I k := by
  have h0 : (a &&& 31).toBitVec.toNat = a.toBitVec.toNat &&& 31 := by
    rw [Int32.toBitVec_and, BitVec.toNat_and]
    rfl
  have h1 : a.toBitVec.toNat &&& 31 ≤ 31 := Nat.and_le_right
  refine ⟨a.toBitVec.toNat &&& 31, by omega, ?_⟩
  apply Int32.toBitVec_inj.mp
  apply BitVec.eq_of_toNat_eq
  rw [h0]
  generalize a.toBitVec.toNat &&& 31 = k at h1
  have : ∀ k : Nat, k < 32 → k = (p_I k).toBitVec.toNat := by decide +kernel
  exact this k (by omega)
theorem q_ofN (n : Nat) : Int32.ofNat n = p_I n := rfl
theorem q_inI {i k L : Nat} (h : i + k < L) (hL : L ≤ 3073) : vp_in (p_I i + p_I k) L := by
  rw [p_addN]
  exact p_in h (by omega)
def R_law : String := "RoomFillsLaw"
def lw_P (b : Addr) (xs : List Int32) (args : Array Value) (s : State) : Prop := args = #[.ref b] ∧ s.IntsAt b xs ∧ xs.length ≤ 3073 ∧ (Jvm.Cond.and given_1 narrow_1).before args s = true
def lw_Q (_ : Array Value) (s : State) (o : Outcome) (t : State) : Prop := o = .returned (some (.int 1)) ∧ Framed s o t [] 601024 7293000
def lw_Z (below : List Frame) (a : Array Value) (s : State) : State → Prop := fun t => ∃ o, t.status = .running ∧ Ended t below o ∧ lw_Q a s o t
/-- the law's own end, with 1 on the stack, nothing written that was there before, its room as the claim has it -/
theorem lw_ret {p : Program} {l : Launch} {e : Env} {s : State} {m : MethodId} {below : List Frame} {meth : Method} {c : Code} {b : Nat} (hx : p.tables.exec = Jvm.exec) (hb : c.code = code) (hr : meth.sig.returnType = ret) (hlocks : meth.locks = false) {pc : Nat} {H : Heap} {ls : Array Slot} (hdg : decode code pc = .ok (.ireturn, 1)) : W p l e room_1 s m #[Value.ref b] below meth c H [] 601024 7293000 (lw_Z below #[Value.ref b] s) (F0 m pc ls [.int 1]) := by
  intro T hT X
  obtain ⟨fs, hret, hrun, hended, hW, hframe⟩ := X.leave (v := some (.int 1)) (hlocks := hlocks) (fun h => by rw [hr] at h; cases h)
  have hmeth' : T.vm.method? m = some meth := X.method'
  refine ⟨T.setFrames fs, ?_, .returned (some (.int 1)), hrun, hended, rfl, ⟨_, rfl⟩, hW, hframe⟩
  jvm_step X.here [X.here.top, hx, hb, hdg, hmeth', hr, ret, narrow_b1]
  (try refine ⟨rfl, ?_⟩); (try refine ⟨rfl, ?_⟩)
  first | (intro acts; rw [hret _ acts rfl rfl rfl]) | rw [hret _ _ rfl rfl rfl]
  exact Steps.refl _
/-- what holds at the law's entry: the machine, the code, the tables' words (any of lw_tbl by 'hts w (by decide +kernel)'), the script of L ints xs at the cell b, what the Statement gives of the start (any of its parts by flat_of_before) -/
def lw_At (p : Program) (s : State) (m : MethodId) (meth : Method) (c : Code) (b L : Nat) (xs : Nat → Int32) : Prop :=
  p.tables.exec = Jvm.exec ∧ c.code = code ∧ meth.sig.returnType = ret ∧ c.maxLocals = 8 ∧ s.vm.findClass R_law = some m.cls ∧ (∀ w ∈ lw_tbl, w.before #[Value.ref b] s = true) ∧ va_X b L xs s s.heap ∧ b < s.heap.size ∧ meth.locks = false ∧ (Jvm.Cond.and given_1 narrow_1).before #[Value.ref b] s = true
set_option maxRecDepth 100000 in
set_option maxHeartbeats 4000000 in
theorem lw_loop {p : Program} {l : Launch} {e : Env} {s : State} {m : MethodId} {below : List Frame} {meth : Method} {c : Code} {D : va_G} {ad : Nat → Nat} {ki : Nat → ClassId} {b L S : Nat} {xs : Nat → Int32} (C0 : q_Lw p l s m meth c D ki b L xs) (hr : meth.sig.returnType = ret) (hlocks : meth.locks = false) (hL : L ≤ 3073) (N : Nat) (hN : 30000 ≤ N) : ∀ (f i cells slots : Nat), L < i + 6 * f + 6 → i ≤ L + 6 → cells + 4 * f ≤ 601024 → slots + 24 * f ≤ 7293000 → ∀ (H : Heap) (locs : List Loc) (ls : Array Slot), q_J D (fun q : Nat => s.heap.size ≤ q) ad ki S H → va_S (fun q : Nat => s.heap.size ≤ q) s.heap H locs → lv_has ls 8 [(4, .int (p_I i)), (3, .ref (ad 49)), (2, .ref (ad 29)), (1, .ref (ad 0)), (0, .ref b)] → W p l e room_1 s m #[Value.ref b] below meth c H locs cells slots (lw_Z below #[Value.ref b] s) (F0 m 33 ls []) := by
  intro f
  induction f with
  | zero =>
    intro i cells slots h1 h1b h2 h3 H locs ls hJ hS hl
    obtain ⟨hx, hb, hml, hown, hts, hX, hbl, hK, hE, hZ0, hl9⟩ := id C0
    have hbA : ¬ (fun q : Nat => s.heap.size ≤ q) b := Nat.not_le.mpr hbl
    refine lv_iload hx hb d_Law_law_33 (lv_at hl 0 rfl) ?_
    refine lv_aload_n hx hb d_Law_law_35 rfl (lv_at hl 4 rfl) ?_
    refine va_slen hx hb hX hbl hbA hS d_Law_law_36 ?_
    refine lv_bipush (v := 6) hx hb d_Law_law_37 (by decide) ?_
    refine lv_isub hx hb d_Law_law_39 ?_
    have hcmp : (Int32.ofNat L - 6 < p_I i) ↔ (L : Int) - 6 < i := by
      rw [q_ofN, p_6, p_Isub, p_Ilt] <;> omega
    refine lv_icmp_gt (tgt := 1273) hx hb d_Law_law_40 (by decide) (fun c9 => ?_) (fun c9 => ?_)
    · refine lv_iconst (v := 1) hx hb d_Law_law_1273 (by decide) ?_
      refine va_forget (fun q h => hS.2.2 q h) ?_
      refine W.widen (k := 601024) (n := 7293000) (by omega) (by omega) ?_
      exact lw_ret hx hb hr hlocks d_Law_law_1274
    rw [hcmp] at c9
    exact absurd c9 (by omega)
  | succ f ih =>
    intro i cells slots h1 h1b h2 h3 H locs ls hJ hS hl
    obtain ⟨hx, hb, hml, hown, hts, hX, hbl, hK, hE, hZ0, hl9⟩ := id C0
    have hbA : ¬ (fun q : Nat => s.heap.size ≤ q) b := Nat.not_le.mpr hbl
    refine lv_iload hx hb d_Law_law_33 (lv_at hl 0 rfl) ?_
    refine lv_aload_n hx hb d_Law_law_35 rfl (lv_at hl 4 rfl) ?_
    refine va_slen hx hb hX hbl hbA hS d_Law_law_36 ?_
    refine lv_bipush (v := 6) hx hb d_Law_law_37 (by decide) ?_
    refine lv_isub hx hb d_Law_law_39 ?_
    have hcmp : (Int32.ofNat L - 6 < p_I i) ↔ (L : Int) - 6 < i := by
      rw [q_ofN, p_6, p_Isub, p_Ilt] <;> omega
    refine lv_icmp_gt (tgt := 1273) hx hb d_Law_law_40 (by decide) (fun c9 => ?_) (fun c9 => ?_)
    · refine lv_iconst (v := 1) hx hb d_Law_law_1273 (by decide) ?_
      refine va_forget (fun q h => hS.2.2 q h) ?_
      refine W.widen (k := 601024) (n := 7293000) (by omega) (by omega) ?_
      exact lw_ret hx hb hr hlocks d_Law_law_1274
    rw [hcmp] at c9
    have hi : i + 6 ≤ L := by omega
    refine lv_aload_n hx hb d_Law_law_43 rfl (lv_at hl 4 rfl) ?_
    refine lv_iload hx hb d_Law_law_44 (lv_at hl 0 rfl) ?_
    refine va_sld hx hb hX hbl hbA hS (p_in (show i < L by omega) (by omega)) d_Law_law_46 ?_
    refine lv_bipush (v := 31) hx hb d_Law_law_47 (by decide) ?_
    refine lv_iand hx hb d_Law_law_49 ?_
    obtain ⟨k, hk, ek⟩ := q_31 (xs (Int32.toNatClampNeg (p_I i)))
    rw [ek]
    have i1 : vp_in (p_I i + 1) L := q_inI (k := 1) (by omega) hL
    have i2 : vp_in (p_I i + 2) L := q_inI (k := 2) (by omega) hL
    have i3 : vp_in (p_I i + 3) L := q_inI (k := 3) (by omega) hL
    have i4 : vp_in (p_I i + 4) L := q_inI (k := 4) (by omega) hL
    have i5 : vp_in (p_I i + 5) L := q_inI (k := 5) (by omega) hL
    have tail : ∀ (H : Heap) (locs : List Loc) (ls : Array Slot), q_J D (fun q : Nat => s.heap.size ≤ q) ad ki S H → va_S (fun q : Nat => s.heap.size ≤ q) s.heap H locs → lv_has ls 8 [(4, .int (p_I i)), (3, .ref (ad 49)), (2, .ref (ad 29)), (1, .ref (ad 0)), (0, .ref b)] → W p l e room_1 s m #[Value.ref b] below meth c H locs (cells + 4) (slots + 24) (lw_Z below #[Value.ref b] s) (F0 m 1267 ls []) := by
      intro H locs ls hJ hS hl
      refine lv_iinc (v := p_I ((i + 6 : Nat) : Int)) (lv' := [(4, .int (p_I ((i + 6 : Nat) : Int))), (3, .ref (ad 49)), (2, .ref (ad 29)), (1, .ref (ad 0)), (0, .ref b)]) hx hb d_Law_law_1267 hl (k := 0) rfl (p_Iadd i 6) (by decide) rfl (fun ls hl => ?_)
      refine lv_goto (tgt := 33) hx hb d_Law_law_1270 (by decide) ?_
      exact ih (i + 6) (cells + 4) (slots + 24) (by omega) (by omega) (by omega) (by omega) H locs ls hJ hS hl
    have hR1 : cells + 4 ≤ 601024 := by omega
    have hR2 : slots + 24 ≤ 7293000 := by omega
    by_cases h17 : 17 ≤ k
    · refine lv_tableOut (tgt := 1267) hx hb d_Law_law_50 (Or.inr (by rw [p_Iint] <;> omega)) (by decide) ?_
      exact W.widen (Nat.le_add_right _ _) (Nat.le_add_right _ _) (tail H locs ls hJ hS hl)
    rcases (show k = 0 ∨ k = 1 ∨ k = 2 ∨ k = 3 ∨ k = 4 ∨ k = 5 ∨ k = 6 ∨ k = 7 ∨ k = 8 ∨ k = 9 ∨ k = 10 ∨ k = 11 ∨ k = 12 ∨ k = 13 ∨ k = 14 ∨ k = 15 ∨ k = 16 by omega) with rfl | rfl | rfl | rfl | rfl | rfl | rfl | rfl | rfl | rfl | rfl | rfl | rfl | rfl | rfl | rfl | rfl
    · refine lv_tableIn (tgt := 132) (off := 82) hx hb d_Law_law_50 (by decide) (by decide) rfl (by decide) ?_
      exact j_door C0 N hN i1 i2 i3 i4 i5 hl hR1 hR2 hJ hS tail
    · refine lv_tableIn (tgt := 207) (off := 157) hx hb d_Law_law_50 (by decide) (by decide) rfl (by decide) ?_
      exact j_pipe C0 N hN i1 i2 i3 i4 i5 hl hR1 hR2 hJ hS tail
    · refine lv_tableIn (tgt := 270) (off := 220) hx hb d_Law_law_50 (by decide) (by decide) rfl (by decide) ?_
      exact j_item C0 N hN i1 i2 i3 i4 i5 hl hR1 hR2 hJ hS tail
    · refine lv_tableIn (tgt := 414) (off := 364) hx hb d_Law_law_50 (by decide) (by decide) rfl (by decide) ?_
      exact j_need C0 N hN i1 i2 i3 i4 i5 hl hR1 hR2 hJ hS tail
    · refine lv_tableIn (tgt := 489) (off := 439) hx hb d_Law_law_50 (by decide) (by decide) rfl (by decide) ?_
      exact j_near C0 N hN i1 i2 i3 i4 i5 hl hR1 hR2 hJ hS tail
    · refine lv_tableIn (tgt := 608) (off := 558) hx hb d_Law_law_50 (by decide) (by decide) rfl (by decide) ?_
      exact j_bar C0 N hN i1 i2 i3 i4 i5 hl hR1 hR2 hJ hS tail
    · refine lv_tableIn (tgt := 683) (off := 633) hx hb d_Law_law_50 (by decide) (by decide) rfl (by decide) ?_
      exact j_must C0 N hN i1 i2 i3 i4 i5 hl hR1 hR2 hJ hS tail
    · refine lv_tableIn (tgt := 774) (off := 724) hx hb d_Law_law_50 (by decide) (by decide) rfl (by decide) ?_
      exact j_filler C0 N hN i1 i2 i3 i4 i5 hl hR1 hR2 hJ hS tail
    · refine lv_tableIn (tgt := 849) (off := 799) hx hb d_Law_law_50 (by decide) (by decide) rfl (by decide) ?_
      exact j_run C0 N hN i1 i2 i3 i4 i5 hl hR1 hR2 hJ hS tail
    · refine lv_tableIn (tgt := 862) (off := 812) hx hb d_Law_law_50 (by decide) (by decide) rfl (by decide) ?_
      exact j_variant C0 N hN i1 i2 i3 i4 i5 hl hR1 hR2 hJ hS tail
    · refine lv_tableIn (tgt := 918) (off := 868) hx hb d_Law_law_50 (by decide) (by decide) rfl (by decide) ?_
      exact j_at C0 N hN i1 i2 i3 i4 i5 hl hR1 hR2 hJ hS tail
    · refine lv_tableIn (tgt := 974) (off := 924) hx hb d_Law_law_50 (by decide) (by decide) rfl (by decide) ?_
      exact j_plan C0 N hN i1 i2 i3 i4 i5 hl hR1 hR2 hJ hS tail
    · refine lv_tableIn (tgt := 1042) (off := 992) hx hb d_Law_law_50 (by decide) (by decide) rfl (by decide) ?_
      exact j_worth C0 N hN i1 i2 i3 i4 i5 hl hR1 hR2 hJ hS tail
    · refine lv_tableIn (tgt := 1097) (off := 1047) hx hb d_Law_law_50 (by decide) (by decide) rfl (by decide) ?_
      exact j_top C0 N hN i1 i2 i3 i4 i5 hl hR1 hR2 hJ hS tail
    · refine lv_tableIn (tgt := 1165) (off := 1115) hx hb d_Law_law_50 (by decide) (by decide) rfl (by decide) ?_
      exact j_place C0 N hN i1 i2 i3 i4 i5 hl hR1 hR2 hJ hS tail
    · refine lv_tableIn (tgt := 1240) (off := 1190) hx hb d_Law_law_50 (by decide) (by decide) rfl (by decide) ?_
      exact j_check C0 N hN i1 i2 i3 i4 i5 hl hR1 hR2 hJ hS tail
    · refine lv_tableIn (tgt := 1253) (off := 1203) hx hb d_Law_law_50 (by decide) (by decide) rfl (by decide) ?_
      exact j_row C0 N hN i1 i2 i3 i4 i5 hl hR1 hR2 hJ hS tail
