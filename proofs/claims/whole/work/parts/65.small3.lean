def z_item (n : Nat) (w : Nat → Nat) (need : Nat → Int) (wo co : Nat → Int) (vn : Int32) (v_iwid v_inee v_iswi : Nat → Int32) (v_iswo v_isce : Nat → Int64) (mn : Int32) (v_mwid v_mnee : Nat → Int32) (v_mwor v_mcen : Nat → Int64) : Prop :=
  vn = p_I n ∧ mn = p_I n ∧ t_nee n w need v_iwid v_inee ∧ t_nee n w need v_mwid v_mnee ∧ (∀ k, n ≤ k → k < 6 → v_mnee k = p_I (-1)) ∧ (∀ k, w k ≤ 20) ∧ (∀ k, 0 ≤ wo k ∧ wo k ≤ 100000) ∧ (∀ k, 0 ≤ co k ∧ co k ≤ 100000) ∧ (∀ k, k < n → v_mwor k = p_J (wo k) ∧ v_mcen k = p_J (co k)) ∧ (∀ s, s < 2 ^ n → v_iswi s = p_I (p_sum (fun k => (w k : Int)) s) ∧ v_iswo s = p_J (p_sum wo s) ∧ v_isce s = p_J (p_sum co s))
theorem z_need (N : Nat) (c1 vst vpi vle vmo c2 c3 : Int32) (c4 c5 : Int64) (hp : Bool) {n : Nat} {w : Nat → Nat} {need : Nat → Int} {wo co : Nat → Int} {vn : Int32} {v_iwid v_inee v_iswi : Nat → Int32} {v_iswo v_isce : Nat → Int64} {mn : Int32} {v_mwid v_mnee : Nat → Int32} {v_mwor v_mcen : Nat → Int64} (hz : z_item n w need wo co vn v_iwid v_inee v_iswi v_iswo v_isce mn v_mwid v_mnee v_mwor v_mcen) (tc vms p1 p2 : Int32) :
    (∃ e : Nat, (e = 3 ∨ e = 2) ∧ f_RoomFills_need N 6 tc vms vn v_inee p1 p2 = some (e, false, tc, v_inee) ∧ f_Model_need N 6 c1 vst vpi mn vle vmo hp c2 c3 c4 c5 v_mnee p1 p2 = some (false, (if e = 3 then 1 else 2), hp, v_mnee)) ∨
    (∃ r vi vm' need', f_RoomFills_need N 6 tc vms vn v_inee p1 p2 = some (0, r, (if r = true then 0 else tc), vi) ∧ f_Model_need N 6 c1 vst vpi mn vle vmo hp c2 c3 c4 c5 v_mnee p1 p2 = some (r, 0, (if r = true then false else hp), vm') ∧ z_item n w need' wo co vn v_iwid vi v_iswi v_iswo v_isce mn v_mwid vm' v_mwor v_mcen ∧ (r = false → need' = need)) := by
  obtain ⟨rfl, rfl, h1, h2, h3, h4⟩ := hz
  have hn := h1.1
  obtain ⟨x, rfl, g1, g2⟩ := p_al p1
  obtain ⟨y, rfl, g3, g4⟩ := p_al p2
  have t1 : p_I x < 0 ↔ x < 0 := by rw [p_0, p_Ilt] <;> omega
  have t2 : p_I x < p_I n ↔ ¬ ((n : Int) ≤ x) := by rw [p_Ilt] <;> omega
  have t2' : p_I n ≤ p_I x ↔ ((n : Int) ≤ x) := by rw [p_Ile] <;> omega
  have t3 : p_I y < (-1 : Int32) ↔ y < -1 := by rw [p_m1, p_Ilt] <;> omega
  have t4 : p_I y ≤ (40 : Int32) ↔ ¬ (40 < y) := by rw [show (40 : Int32) = p_I 40 by decide, p_Ile] <;> omega
  have i1 : f_Model_isIn N (p_I y).toInt64 (-1) 40 = some (decide (-1 ≤ y) && decide (y ≤ 40)) := by
    rw [p_tol g3 g4, show (-1 : Int64) = p_J (-1) by decide, show (40 : Int64) = p_J 40 by decide]
    exact r_isIn N (by omega) (by omega) (b := -1) (by omega) (by omega) (c := 40) (by omega) (by omega)
  have d1 : (0 : Int32) < 1 := by decide
  have d2 : (0 : Int32) < 2 := by decide
  have d0 : ¬ ((0 : Int32) < 0) := by decide
  unfold f_RoomFills_need f_RoomFills_demandItem f_Model_need f_Model_isItem f_Model_change
  rw [i1]
  by_cases e1 : x < 0
  · left
    exact ⟨3, Or.inl rfl, by simp [t1, e1], by simp [t1, e1, d1]⟩
  by_cases e2 : (n : Int) ≤ x
  · left
    exact ⟨3, Or.inl rfl, by simp [t1, t2, e1, e2], by simp [t1, t2', e1, e2, d1]⟩
  by_cases e3 : y < -1
  · left
    rw [decide_eq_false (p := -1 ≤ y) (by omega)]
    exact ⟨2, Or.inr rfl, by simp [t1, t2, t3, e1, e2, e3], by simp [t1, t2', e1, e2, d2]⟩
  by_cases e4 : 40 < y
  · left
    rw [decide_eq_false (p := y ≤ 40) (by omega)]
    exact ⟨2, Or.inr rfl, by simp [t1, t2, t3, t4, e1, e2, e3, e4], by simp [t1, t2', e1, e2, d2]⟩
  rw [decide_eq_true (p := -1 ≤ y) (by omega), decide_eq_true (p := y ≤ 40) (by omega)]
  right
  obtain ⟨a, ha⟩ : ∃ a : Nat, x = (a : Int) := ⟨x.toNat, by omega⟩
  subst ha
  obtain ⟨q1, q2, q3, q4, q5, q6⟩ := h1.2 a (by omega)
  obtain ⟨s1, s2, s3, s4, s5, s6⟩ := h2.2 a (by omega)
  have i3 := p_ix a (by omega)
  have i4 : ¬ (6 ≤ a) := by omega
  unfold f_Items_setNeed f_RoomFills_news
  have t5 : p_I (need a) = p_I y ↔ need a = y := by rw [p_Ieq] <;> omega
  have up : ∀ (vw v : Nat → Int32), t_nee n w need vw v → t_nee n w (fun k => if k = a then y else need k) vw (upd v a (p_I y)) := by
    intro vw v hv
    refine ⟨hn, fun k hk => ?_⟩
    obtain ⟨r1, r2, r3, r4, r5, r6⟩ := hv.2 k hk
    rw [p_u]
    by_cases ck : k = a
    · simp only [if_pos ck]; exact ⟨r1, r2, r3, trivial, by omega, by omega⟩
    · simp only [if_neg ck]; exact ⟨r1, r2, r3, r4, r5, r6⟩
  by_cases e5 : need a = y
  · refine ⟨false, upd v_inee a (p_I y), v_mnee, need, ?_, ?_, ⟨rfl, rfl, ⟨hn, fun k hk => ?_⟩, h2, h3, h4⟩, fun _ => rfl⟩
    · simp only [t1, t2, t3, t4, e1, e2, e3, e4, if_true, if_false, not_false_eq_true, Option.bind, i3, i4, or_self, q4, t5, e5]
      rfl
    · simp only [t1, t2', e1, e2, if_true, if_false, Option.bind, i3, i4, or_self, s4, t5, e5, d0, Bool.and_self]
      rfl
    · obtain ⟨r1, r2, r3, r4, r5, r6⟩ := h1.2 k hk
      rw [p_u]
      by_cases ck : k = a
      · subst ck; rw [if_pos rfl, e5]; exact ⟨r1, r2, r3, rfl, by omega, by omega⟩
      · rw [if_neg ck]; exact ⟨r1, r2, r3, r4, r5, r6⟩
  · refine ⟨true, upd v_inee a (p_I y), upd v_mnee a (p_I y), fun k => if k = a then y else need k, ?_, ?_, ⟨rfl, rfl, up _ _ h1, up _ _ h2, fun k hk hk2 => ?_, h4⟩, fun h => by cases h⟩
    · simp only [t1, t2, t3, t4, e1, e2, e3, e4, if_true, if_false, not_false_eq_true, Option.bind, i3, i4, or_self, q4, t5, e5]
    · simp only [t1, t2', e1, e2, if_true, if_false, Option.bind, i3, i4, or_self, s4, t5, e5, d0, Bool.and_self]
    · rw [p_u, if_neg (by omega)]; exact h3 k hk hk2
def z_pair (n : Nat) (nw : Nat → Nat → Int) (bar : Nat → Nat → Bool) (v_ibar : Nat → Int32) (v_inea v_mnea : Nat → Int64) (v_mbar : Nat → Int32) : Prop :=
  n ≤ 6 ∧ t_sym nw bar ∧ (∀ k b, 0 ≤ nw k b ∧ nw k b ≤ 100000) ∧ (∀ k b, (n ≤ k ∨ n ≤ b) → nw k b = 0 ∧ bar k b = false) ∧ (∀ k, k < 8 → ∃ s : Nat, s < 64 ∧ v_ibar k = p_I s ∧ ∀ b, b < 8 → Nat.testBit s b = bar k b) ∧ (∀ k b, k < 8 → b < 8 → v_inea (k * 8 + b) = p_J (nw k b)) ∧ (∀ b k, b < 6 → k < 6 → v_mnea (6 * b + k) = p_J (nw k b) ∧ (v_mbar (6 * b + k) = 0 ↔ bar k b = false))
theorem z_near (N : Nat) (c1 vst vpi vle vmo c2 c3 : Int32) (c4 c5 : Int64) (hp : Bool) {n : Nat} {nw : Nat → Nat → Int} {bar : Nat → Nat → Bool} {v_ibar : Nat → Int32} {v_inea v_mnea : Nat → Int64} {v_mbar : Nat → Int32} (hz : z_pair n nw bar v_ibar v_inea v_mnea v_mbar) (tc vms p1 p2 : Int32) (p3 : Int64) :
    (∃ e : Nat, (e = 3 ∨ e = 2) ∧ f_RoomFills_near N 64 tc vms (p_I n) v_inea p1 p2 p3 = some (e, false, tc, v_inea) ∧ f_Model_near N 36 c1 vst vpi (p_I n) vle vmo hp c2 c3 c4 c5 v_mnea p1 p2 p3 = some (false, (if e = 3 then 1 else 2), hp, v_mnea)) ∨
    (∃ r vi vm' nw', f_RoomFills_near N 64 tc vms (p_I n) v_inea p1 p2 p3 = some (0, r, (if r = true then 0 else tc), vi) ∧ f_Model_near N 36 c1 vst vpi (p_I n) vle vmo hp c2 c3 c4 c5 v_mnea p1 p2 p3 = some (r, 0, (if r = true then false else hp), vm') ∧ z_pair n nw' bar v_ibar vi vm' v_mbar ∧ (r = false → nw' = nw)) := by
  obtain ⟨hn, h1, h2, h3, h4, h5, h6⟩ := hz
  obtain ⟨x, rfl, g1, g2⟩ := p_al p1
  obtain ⟨y, rfl, g3, g4⟩ := p_al p2
  obtain ⟨z, rfl, g5, g6⟩ := p_alJ p3
  have t1 : p_I x < 0 ↔ x < 0 := by rw [p_0, p_Ilt] <;> omega
  have t2 : p_I x < p_I n ↔ ¬ ((n : Int) ≤ x) := by rw [p_Ilt] <;> omega
  have t2' : p_I n ≤ p_I x ↔ ((n : Int) ≤ x) := by rw [p_Ile] <;> omega
  have t3 : p_I y < 0 ↔ y < 0 := by rw [p_0, p_Ilt] <;> omega
  have t4 : p_I y < p_I n ↔ ¬ ((n : Int) ≤ y) := by rw [p_Ilt] <;> omega
  have t4' : p_I n ≤ p_I y ↔ ((n : Int) ≤ y) := by rw [p_Ile] <;> omega
  have t5 : p_I x = p_I y ↔ x = y := by rw [p_Ieq] <;> omega
  have i1 : f_Model_isIn N (p_J z) 0 100000 = some (decide (0 ≤ z) && decide (z ≤ 100000)) := by
    rw [p_J0, show (100000 : Int64) = p_J 100000 by decide]
    exact r_isIn N (by omega) (by omega) (b := 0) (by omega) (by omega) (c := 100000) (by omega) (by omega)
  have d1 : (0 : Int32) < 1 := by decide
  have d2 : (0 : Int32) < 2 := by decide
  have d0 : ¬ ((0 : Int32) < 0) := by decide
  have d3 : ¬ ((1 : Int32) = 0) := by decide
  have d4 : ¬ ((2 : Int32) = 0) := by decide
  unfold f_RoomFills_near f_RoomFills_demandPair f_RoomFills_demandItem f_Model_near f_Model_pairCode f_Model_isItem f_Model_change
  rw [i1, t_money N g5 g6]
  by_cases e1 : x < 0
  · left
    exact ⟨3, Or.inl rfl, by simp [t1, e1], by simp [t1, e1, d1, d3]⟩
  by_cases e2 : (n : Int) ≤ x
  · left
    exact ⟨3, Or.inl rfl, by simp [t1, t2, e1, e2], by simp [t1, t2', e1, e2, d1, d3]⟩
  by_cases e3 : y < 0
  · left
    exact ⟨3, Or.inl rfl, by simp [t1, t2, t3, e1, e2, e3], by simp [t1, t2', t3, e1, e2, e3, d1, d3]⟩
  by_cases e4 : (n : Int) ≤ y
  · left
    exact ⟨3, Or.inl rfl, by simp [t1, t2, t3, t4, e1, e2, e3, e4], by simp [t1, t2', t3, t4', e1, e2, e3, e4, d1, d3]⟩
  by_cases e5 : x = y
  · left
    exact ⟨2, Or.inr rfl, by simp [t1, t2, t3, t4, t5, e1, e2, e3, e4, e5], by simp [t1, t2', t3, t4', t5, e1, e2, e3, e4, e5, d2, d4]⟩
  by_cases e6 : 0 ≤ z ∧ z ≤ 100000
  · right
    rw [decide_eq_true e6.1, decide_eq_true e6.2]
    obtain ⟨a, ha⟩ : ∃ a : Nat, x = (a : Int) := ⟨x.toNat, by omega⟩
    obtain ⟨b, hb⟩ : ∃ b : Nat, y = (b : Int) := ⟨y.toNat, by omega⟩
    subst ha; subst hb
    have hsy := h1 a b (by omega) (by omega)
    unfold f_Items_setNear f_Items_nearWorthOf f_RoomFills_news
    have j1 := p_inx (k := a * 8 + b) (n := 64) (by omega) (by omega)
    have j2 := p_inx (k := b * 8 + a) (n := 64) (by omega) (by omega)
    have j3 := p_inx (k := 6 * a + b) (n := 36) (by omega) (by omega)
    have j4 := p_inx (k := 6 * b + a) (n := 36) (by omega) (by omega)
    simp only [t1, t2, t2', t3, t4, t4', t5, e1, e2, e3, e4, e5, if_true, if_false, not_false_eq_true, Option.bind, Bool.and_self, d0, p_pair, p_m6, p_ix (a * 8 + b) (by omega), p_ix (b * 8 + a) (by omega), p_ix (6 * a + b) (by omega), p_ix (6 * b + a) (by omega), j1, j2, j3, j4, h5 a b (by omega) (by omega), (h6 a b (by omega) (by omega)).1, hsy.2]
    have hb1 := h2 a b
    by_cases e7 : nw a b = z
    · rw [if_pos (by rw [lg_cmp_eq, e7]), if_pos (by rw [lg_cmp_eq, e7])]
      refine ⟨false, vp_updL (vp_updL v_inea (a * 8 + b) (p_J z)) (b * 8 + a) (p_J z), v_mnea, nw, rfl, rfl, ⟨hn, h1, h2, h3, h4, ?_, h6⟩, fun _ => rfl⟩
      intro k c hk hc
      rw [p_uL, p_uL]
      by_cases q1 : k * 8 + c = b * 8 + a
      · rw [if_pos q1]
        obtain rfl : k = b := by omega
        obtain rfl : c = a := by omega
        rw [hsy.2, e7]
      · rw [if_neg q1]
        by_cases q2 : k * 8 + c = a * 8 + b
        · rw [if_pos q2]
          obtain rfl : k = a := by omega
          obtain rfl : c = b := by omega
          rw [e7]
        · rw [if_neg q2]; exact h5 k c hk hc
    · rw [if_neg (by rw [lg_cmp_eq, p_Jeq2] <;> omega), if_neg (by rw [lg_cmp_eq, p_Jeq2] <;> omega)]
      have hnw' : ∀ k c, (fun k c => if (k = a ∧ c = b) ∨ (k = b ∧ c = a) then z else nw k c) k c = if (k = a ∧ c = b) ∨ (k = b ∧ c = a) then z else nw k c := fun _ _ => rfl
      refine ⟨true, vp_updL (vp_updL v_inea (a * 8 + b) (p_J z)) (b * 8 + a) (p_J z), vp_updL (vp_updL v_mnea (6 * a + b) (p_J z)) (6 * b + a) (p_J z), fun k c => if (k = a ∧ c = b) ∨ (k = b ∧ c = a) then z else nw k c, rfl, rfl, ⟨hn, ?_, ?_, ?_, h4, ?_, ?_⟩, fun h => by cases h⟩
      · intro k c hk hc
        refine ⟨(h1 k c hk hc).1, ?_⟩
        simp only []
        by_cases q : (k = a ∧ c = b) ∨ (k = b ∧ c = a)
        · rw [if_pos q, if_pos (by omega)]
        · rw [if_neg q, if_neg (by omega)]; exact (h1 k c hk hc).2
      · intro k c
        simp only []
        split
        · omega
        · exact h2 k c
      · intro k c hkc
        simp only []
        rw [if_neg (by omega)]
        exact h3 k c hkc
      · intro k c hk hc
        rw [p_uL, p_uL]
        simp only []
        by_cases q1 : k * 8 + c = b * 8 + a
        · rw [if_pos q1, if_pos (by omega)]
        · rw [if_neg q1]
          by_cases q2 : k * 8 + c = a * 8 + b
          · rw [if_pos q2, if_pos (by omega)]
          · rw [if_neg q2, if_neg (by omega)]; exact h5 k c hk hc
      · intro c k hc hk
        refine ⟨?_, (h6 c k hc hk).2⟩
        rw [p_uL, p_uL]
        simp only []
        by_cases q1 : 6 * c + k = 6 * b + a
        · rw [if_pos q1, if_pos (by omega)]
        · rw [if_neg q1]
          by_cases q2 : 6 * c + k = 6 * a + b
          · rw [if_pos q2, if_pos (by omega)]
          · rw [if_neg q2, if_neg (by omega)]; exact (h6 c k hc hk).1
  · left
    have e7 : (decide (0 ≤ z) && decide (z ≤ 100000)) = false := by
      by_cases q : 0 ≤ z
      · rw [decide_eq_false (p := z ≤ 100000) (fun q2 => e6 ⟨q, q2⟩), Bool.and_false]
      · rw [decide_eq_false q, Bool.false_and]
    rw [e7]
    exact ⟨2, Or.inr rfl, by simp [t1, t2, t3, t4, t5, e1, e2, e3, e4, e5], by simp [t1, t2', t3, t4', t5, e1, e2, e3, e4, e5, d2, d0]⟩
