theorem q_St.of {n d : String} {A : Nat → Prop} {s : State} {args : Array Value} (h1 : (Cond.laysStatic Bundle.tN n d).before args s = true) (h2 : (Cond.isRef (.static Bundle.tN n d)).before args s = true) (hA : ∀ a : Nat, a < s.heap.size → ¬ A a) : q_St n d A s s.heap := by
  obtain ⟨c, k, i, f, a, cell, hc, hf, hst, hsta, hcell, hiss, hcls, hlt, hty⟩ := Cond.laysStatic_spec h1
  have hv : cell.slots[f.slot]? = some cell.slots[f.slot] := Array.getElem?_eq_getElem hlt
  refine ⟨c, k, i, f, a, cell, _, hc, hf, hst, hsta, hcell, hiss, hcls, hlt, hty, hv, ?_, hA a (Array.getElem?_eq_some_iff.mp hcell).1⟩
  have hu : cell.vm ≠ .unknown := fun z => by rw [z] at hiss; cases hiss
  have hev : (Term.static Bundle.tN n d).eval args s none [] s = some (cell.slots[f.slot]) := by
    simp [Term.eval, State.fieldNamed?, hf, hst, hsta, hcell, hu]
    try (cases hz : cell.vm <;> simp_all)
  simp only [Cond.before, Cond.holds, Cond.value, hev] at h2
  generalize cell.slots[f.slot] = v at h2 ⊢
  cases v <;> simp_all [Value.isRef]
theorem q_S (p1 : Int32) : ∃ S : Nat, 1 ≤ S ∧ S ≤ 40 ∧ (if 1 < (if p1 < 40 then p1 else 40) then (if p1 < 40 then p1 else 40) else 1) = nI S ∧ (if p1 < 1 then 1 else if 40 < p1 then 40 else p1) = nI S := by
  obtain ⟨x, rfl, h1, h2⟩ := p_al p1
  have t1 : (p_I x < 40) ↔ x < 40 := by rw [show (40 : Int32) = p_I 40 by decide, p_Ilt] <;> omega
  have t2 : (1 < p_I x) ↔ 1 < x := by rw [p_1, p_Ilt] <;> omega
  have t3 : (p_I x < 1) ↔ x < 1 := by rw [p_1, p_Ilt] <;> omega
  have t4 : ((40 : Int32) < p_I x) ↔ 40 < x := by rw [show (40 : Int32) = p_I 40 by decide, p_Ilt] <;> omega
  by_cases c1 : x < 1
  · refine ⟨1, by omega, by omega, ?_, ?_⟩
    · rw [if_pos (t1.mpr (by omega)), if_neg (fun h => by have := t2.mp h; omega)]
      rfl
    · rw [if_pos (t3.mpr c1)]
      rfl
  · by_cases c2 : 40 < x
    · refine ⟨40, by omega, by omega, ?_, ?_⟩
      · rw [if_neg (show ¬ p_I x < 40 from fun h => by have := t1.mp h; omega), if_pos (by decide)]
        rfl
      · rw [if_neg (fun h => c1 (t3.mp h)), if_pos (t4.mpr c2)]
        rfl
    · obtain ⟨k, rfl⟩ : ∃ k : Nat, x = k := ⟨x.toNat, by omega⟩
      refine ⟨k, by omega, by omega, ?_, ?_⟩
      · by_cases c3 : (k : Int) < 40
        · rw [if_pos (t1.mpr c3)]
          by_cases c4 : 1 < (k : Int)
          · rw [if_pos (t2.mpr c4)]
            rfl
          · rw [if_neg (fun h => c4 (t2.mp h))]
            have : k = 1 := by omega
            subst this
            rfl
        · rw [if_neg (fun h => c3 (t1.mp h)), if_pos (by decide)]
          have : k = 40 := by omega
          subst this
          rfl
      · rw [if_neg (fun h => c1 (t3.mp h)), if_neg (fun h => c2 (t4.mp h))]
        rfl
theorem z0_wall {S : Nat} (h1 : 1 ≤ S) (h2 : S ≤ 40) : z_wall S 0 (fun _ => 0) (fun _ => false) (nI S) 0 (fun _ => 0) (fun _ => 0) (nI S) 0 (fun _ => 0) (fun _ => 0) :=
  ⟨rfl, rfl, h1, h2, by decide, by decide, ⟨by omega, fun k h => absurd h (by omega)⟩, ⟨by omega, fun k h => absurd h (by omega)⟩, fun _ _ => ⟨fun _ => rfl, fun _ => rfl⟩, fun _ _ => ⟨fun _ => rfl, fun _ => rfl⟩⟩
theorem z0_item {vm : Nat → Int32} (hm : ∀ k, k < 6 → vm k = p_I (-1)) : z_item 0 (fun _ => 0) (fun _ => 0) (fun _ => 0) (fun _ => 0) 0 (fun _ => 0) (fun _ => 0) (fun _ => 0) (fun _ => 0) (fun _ => 0) 0 (fun _ => 0) vm (fun _ => 0) (fun _ => 0) := by
  refine ⟨by decide, by decide, ⟨by omega, fun k h => absurd h (by omega)⟩, ⟨by omega, fun k h => absurd h (by omega)⟩, fun k _ h => hm k h, fun k => Nat.zero_le _, fun k => show (0 : Int) ≤ 0 ∧ (0 : Int) ≤ 100000 by decide, fun k => show (0 : Int) ≤ 0 ∧ (0 : Int) ≤ 100000 by decide, fun k h => absurd h (by omega), fun s h => ?_⟩
  have hs : s = 0 := by
    have : s < 1 := h
    omega
  subst hs
  rw [p_sum_0, p_sum_0]
  exact ⟨by decide, by decide, by decide⟩
theorem z0_pair : z_pair 0 (fun _ _ => 0) (fun _ _ => false) (fun _ => 0) (fun _ => 0) (fun _ => 0) (fun _ => 0) :=
  ⟨by omega, fun _ _ _ _ => ⟨rfl, rfl⟩, fun _ _ => show (0 : Int) ≤ 0 ∧ (0 : Int) ≤ 100000 by decide, fun _ _ _ => ⟨rfl, rfl⟩, fun k _ => ⟨0, by omega, show (0 : Int32) = p_I ((0 : Nat) : Int) by decide, fun b _ => Nat.zero_testBit b⟩, fun _ _ _ _ => show (0 : Int64) = p_J 0 by decide, fun _ _ _ _ => ⟨show (0 : Int64) = p_J 0 by decide, ⟨fun _ => rfl, fun _ => rfl⟩⟩⟩
theorem z0_must : z_must 0 0 0 (fun _ => 0) := ⟨by decide, by decide, fun k _ => by rw [Nat.zero_testBit]; rfl⟩
theorem z0_fil : z_fil 1 0 1 0 1 0 := ⟨by omega, by omega, by omega, by decide, by decide, by decide, by decide⟩
theorem z0_put {vb vm : Nat → Int32} (h1 : ∀ k, k < 6 → vb k = p_I (-101)) (h2 : ∀ k, k < 6 → vm k = p_I (-101)) : z_put 0 (fun _ => -101) vb vm := fun k hk => ⟨h1 k hk, h2 k hk, show (-101 : Int) ≤ -101 by decide, show (-101 : Int) ≤ 100 by decide, fun _ => rfl⟩
