theorem p_b9 : ∀ s : Nat, s < 64 → ∀ e : Nat, e < 6 → ∀ j : Nat, j < 8 → Nat.testBit (s ||| 2 ^ e) j = (Nat.testBit s j || j == e) := by decide +kernel
theorem p_cl2 : ∀ s : Nat, s < 64 → ∀ k : Nat, k < 6 → Nat.testBit s k = false → (p_I s &&& (p_I ((2 ^ k : Nat) : Int) ^^^ (-1))) = p_I (s : Nat) := by decide +kernel
theorem p_or2 : ∀ s : Nat, s < 64 → ∀ k : Nat, k < 6 → Nat.testBit s k = true → s ||| 2 ^ k = s := by decide +kernel
theorem p_ltp : ∀ s : Nat, s < 64 → ∀ n : Nat, n < 7 → s < 2 ^ n → ∀ k : Nat, k < n → s ||| 2 ^ k < 2 ^ n ∧ s - 2 ^ k < 2 ^ n := by decide +kernel
theorem z_bar (N : Nat) (c1 vst vpi vle vmo c2 c3 : Int32) (c4 c5 : Int64) (hp : Bool) {n : Nat} {nw : Nat → Nat → Int} {bar : Nat → Nat → Bool} {v_ibar : Nat → Int32} {v_inea v_mnea : Nat → Int64} {v_mbar : Nat → Int32} (hz : z_pair n nw bar v_ibar v_inea v_mnea v_mbar) (tc vms p1 p2 : Int32) :
    (∃ e : Nat, (e = 3 ∨ e = 2) ∧ f_RoomFills_bar N 8 tc vms (p_I n) v_ibar p1 p2 = some (e, false, tc, v_ibar) ∧ f_Model_bar N 36 c1 vst vpi (p_I n) vle vmo hp c2 c3 c4 c5 v_mbar p1 p2 = some (false, (if e = 3 then 1 else 2), hp, v_mbar)) ∨
    (∃ r vi vm' bar', f_RoomFills_bar N 8 tc vms (p_I n) v_ibar p1 p2 = some (0, r, (if r = true then 0 else tc), vi) ∧ f_Model_bar N 36 c1 vst vpi (p_I n) vle vmo hp c2 c3 c4 c5 v_mbar p1 p2 = some (r, 0, (if r = true then false else hp), vm') ∧ z_pair n nw bar' vi v_inea v_mnea vm' ∧ (r = false → bar' = bar)) := by
  obtain ⟨hn, h1, h2, h3, h4, h5, h6⟩ := hz
  obtain ⟨x, rfl, g1, g2⟩ := p_al p1
  obtain ⟨y, rfl, g3, g4⟩ := p_al p2
  have t1 : p_I x < 0 ↔ x < 0 := by rw [p_0, p_Ilt] <;> omega
  have t2 : p_I x < p_I n ↔ ¬ ((n : Int) ≤ x) := by rw [p_Ilt] <;> omega
  have t2' : p_I n ≤ p_I x ↔ ((n : Int) ≤ x) := by rw [p_Ile] <;> omega
  have t3 : p_I y < 0 ↔ y < 0 := by rw [p_0, p_Ilt] <;> omega
  have t4 : p_I y < p_I n ↔ ¬ ((n : Int) ≤ y) := by rw [p_Ilt] <;> omega
  have t4' : p_I n ≤ p_I y ↔ ((n : Int) ≤ y) := by rw [p_Ile] <;> omega
  have t5 : p_I x = p_I y ↔ x = y := by rw [p_Ieq] <;> omega
  have d1 : (0 : Int32) < 1 := by decide
  have d2 : (0 : Int32) < 2 := by decide
  have d0 : ¬ ((0 : Int32) < 0) := by decide
  unfold f_RoomFills_bar f_RoomFills_demandPair f_RoomFills_demandItem f_Model_bar f_Model_pairCode f_Model_isItem f_Model_change
  by_cases e1 : x < 0
  · left
    exact ⟨3, Or.inl rfl, by simp [t1, e1], by simp [t1, e1, d1]⟩
  by_cases e2 : (n : Int) ≤ x
  · left
    exact ⟨3, Or.inl rfl, by simp [t1, t2, e1, e2], by simp [t1, t2', e1, e2, d1]⟩
  by_cases e3 : y < 0
  · left
    exact ⟨3, Or.inl rfl, by simp [t1, t2, t3, e1, e2, e3], by simp [t1, t2', t3, e1, e2, e3, d1]⟩
  by_cases e4 : (n : Int) ≤ y
  · left
    exact ⟨3, Or.inl rfl, by simp [t1, t2, t3, t4, e1, e2, e3, e4], by simp [t1, t2', t3, t4', e1, e2, e3, e4, d1]⟩
  by_cases e5 : x = y
  · left
    exact ⟨2, Or.inr rfl, by simp [t1, t2, t3, t4, t5, e1, e2, e3, e4, e5], by simp [t1, t2', t3, t4', t5, e1, e2, e3, e4, e5, d2]⟩
  right
  obtain ⟨a, ha⟩ : ∃ a : Nat, x = (a : Int) := ⟨x.toNat, by omega⟩
  obtain ⟨b, hb⟩ : ∃ b : Nat, y = (b : Int) := ⟨y.toNat, by omega⟩
  subst ha; subst hb
  have hsy := h1 a b (by omega) (by omega)
  obtain ⟨sa, a1, a2, a3⟩ := h4 a (by omega)
  obtain ⟨sb, b1, b2, b3⟩ := h4 b (by omega)
  unfold f_Items_setBarred f_Items_isBarred f_RoomFills_news
  have j1 : ¬ (8 ≤ a) := by omega
  have j2 : ¬ (8 ≤ b) := by omega
  have j3 := p_inx (k := 6 * a + b) (n := 36) (by omega) (by omega)
  have j4 := p_inx (k := 6 * b + a) (n := 36) (by omega) (by omega)
  have hne : (b : Nat) ≠ a := by omega
  have hba : upd v_ibar a (p_I ((sa ||| 2 ^ b : Nat) : Int)) b = p_I sb := by rw [p_u, if_neg hne, b2]
  have hbits : (p_I sa &&& p_I ((2 ^ b : Nat) : Int)) = 0 ↔ bar a b = false := by rw [p_has sa a1 b (by omega), a3 b (by omega)]
  simp only [t1, t2, t2', t3, t4, t4', t5, e1, e2, e3, e4, e5, if_true, if_false, not_false_eq_true, Option.bind, d0, p_m6, p_ix a (by omega), p_ix b (by omega), p_ix (6 * a + b) (by omega), p_ix (6 * b + a) (by omega), j1, j2, or_self, j3, j4, a2, p_bit a (by omega), p_bit b (by omega), p_or sa a1 b (by omega), hba, p_or sb b1 a (by omega), hbits, (h6 a b (by omega) (by omega)).2]
  rw [hsy.1]
  have hnew : ∀ bar' : Nat → Nat → Bool, (∀ k c, k < 8 → c < 8 → bar' k c = (bar k c || (decide (k = a) && decide (c = b)) || (decide (k = b) && decide (c = a)))) → ∀ k, k < 8 → ∃ s : Nat, s < 64 ∧ upd (upd v_ibar a (p_I ((sa ||| 2 ^ b : Nat) : Int))) b (p_I ((sb ||| 2 ^ a : Nat) : Int)) k = p_I s ∧ ∀ c, c < 8 → Nat.testBit s c = bar' k c := by
    intro bar' hb' k hk
    rw [p_u, p_u]
    by_cases q1 : k = b
    · rw [if_pos q1]
      refine ⟨_, p_or64 b1 (by omega), rfl, fun c hc => ?_⟩
      subst q1
      rw [p_b9 sb b1 a (by omega) c hc, b3 c hc, hb' k c hk hc, decide_eq_true (p := k = k) rfl, decide_eq_false (p := k = a) (by omega), Bool.false_and, Bool.or_false, Bool.true_and]
      rfl
    · rw [if_neg q1]
      by_cases q2 : k = a
      · rw [if_pos q2]
        refine ⟨_, p_or64 a1 (by omega), rfl, fun c hc => ?_⟩
        subst q2
        rw [p_b9 sa a1 b (by omega) c hc, a3 c hc, hb' k c hk hc, decide_eq_true (p := k = k) rfl, decide_eq_false (p := k = b) (by omega), Bool.false_and, Bool.or_false, Bool.true_and]
        rfl
      · rw [if_neg q2]
        obtain ⟨s, s1, s2, s3⟩ := h4 k hk
        refine ⟨s, s1, s2, fun c hc => ?_⟩
        rw [s3 c hc, hb' k c hk hc, decide_eq_false q1, decide_eq_false q2]
        simp
  cases hbar : bar a b with
  | true =>
    refine ⟨false, _, v_mbar, bar, rfl, rfl, ⟨hn, h1, h2, h3, ?_, h5, h6⟩, fun _ => rfl⟩
    refine hnew bar (fun k c hk hc => ?_)
    by_cases q : (k = a ∧ c = b)
    · rw [q.1, q.2, hbar]; rfl
    · by_cases q2 : (k = b ∧ c = a)
      · rw [q2.1, q2.2, hsy.1, hbar]; rfl
      · have w1 : (decide (k = a) && decide (c = b)) = false := by
          rw [← Bool.not_eq_true, Bool.and_eq_true, decide_eq_true_eq, decide_eq_true_eq]; exact q
        have w2 : (decide (k = b) && decide (c = a)) = false := by
          rw [← Bool.not_eq_true, Bool.and_eq_true, decide_eq_true_eq, decide_eq_true_eq]; exact q2
        rw [w1, w2, Bool.or_false, Bool.or_false]
  | false =>
    refine ⟨true, _, upd (upd v_mbar (6 * a + b) (vp_nar .boolean 1)) (6 * b + a) (vp_nar .boolean 1), fun k c => bar k c || (decide (k = a) && decide (c = b)) || (decide (k = b) && decide (c = a)), rfl, rfl, ⟨hn, ?_, h2, ?_, hnew _ (fun _ _ _ _ => rfl), h5, ?_⟩, fun h => by cases h⟩
    · intro k c hk hc
      refine ⟨?_, (h1 k c hk hc).2⟩
      simp only []
      rw [(h1 k c hk hc).1, Bool.or_assoc, Bool.or_assoc, Bool.or_comm (decide (c = a) && _), Bool.and_comm (decide (c = b)), Bool.and_comm (decide (c = a))]
    · intro k c hkc
      refine ⟨(h3 k c hkc).1, ?_⟩
      simp only []
      rw [(h3 k c hkc).2, Bool.false_or]
      rcases hkc with q | q
      · rw [decide_eq_false (p := k = a) (by omega), decide_eq_false (p := k = b) (by omega)]; rfl
      · rw [decide_eq_false (p := c = a) (by omega), decide_eq_false (p := c = b) (by omega), Bool.and_false, Bool.and_false]; rfl
    · intro c k hc hk
      refine ⟨(h6 c k hc hk).1, ?_⟩
      rw [p_u, p_u]
      simp only []
      by_cases q1 : 6 * c + k = 6 * b + a
      · rw [if_pos q1]
        obtain rfl : c = b := by omega
        obtain rfl : k = a := by omega
        simp [r_n0]
      · rw [if_neg q1]
        by_cases q2 : 6 * c + k = 6 * a + b
        · rw [if_pos q2]
          obtain rfl : c = a := by omega
          obtain rfl : k = b := by omega
          simp [r_n0]
        · rw [if_neg q2, (h6 c k hc hk).2]
          have w1 : (decide (k = a) && decide (c = b)) = false := by
            rw [← Bool.not_eq_true, Bool.and_eq_true, decide_eq_true_eq, decide_eq_true_eq]; omega
          have w2 : (decide (k = b) && decide (c = a)) = false := by
            rw [← Bool.not_eq_true, Bool.and_eq_true, decide_eq_true_eq, decide_eq_true_eq]; omega
          rw [w1, w2, Bool.or_false, Bool.or_false]
def z_must (n M : Nat) (vms : Int32) (v_mmus : Nat → Int32) : Prop := vms = p_I M ∧ M < 2 ^ n ∧ ∀ k, k < 6 → v_mmus k = bI (Nat.testBit M k)
theorem p_tb1 : ∀ s : Nat, s < 64 → ∀ k : Nat, k < 6 → ∀ j : Nat, j < 6 → Nat.testBit s k = true → Nat.testBit (s - 2 ^ k) j = (Nat.testBit s j && !(j == k)) := by decide +kernel
theorem p_ne1 : ∀ s : Nat, s < 64 → ∀ k : Nat, k < 6 → Nat.testBit s k = false → p_I ((s ||| 2 ^ k : Nat) : Int) ≠ p_I s := by decide +kernel
theorem p_ne2 : ∀ s : Nat, s < 64 → ∀ k : Nat, k < 6 → Nat.testBit s k = true → p_I ((s - 2 ^ k : Nat) : Int) ≠ p_I s := by decide +kernel
theorem p_nb (b : Bool) : vp_nar .boolean (bI b) = bI b := by cases b <;> decide
theorem p_bIeq (a b : Bool) : bI a = bI b ↔ a = b := by cases a <;> cases b <;> decide
theorem zz_must (N : Nat) (c1 vst vpi vle vmo c2 c3 : Int32) (c4 c5 : Int64) (hp : Bool) {n : Nat} (hn : n ≤ 6) {M : Nat} {vms : Int32} {v_mmus : Nat → Int32} (hz : z_must n M vms v_mmus) (tc p1 : Int32) (p2 : Bool) :
    (f_RoomFills_must N tc vms (p_I n) p1 p2 = some (3, false, tc, vms) ∧ f_Model_must N 6 c1 vst vpi (p_I n) vle vmo hp c2 c3 c4 c5 v_mmus p1 p2 = some (false, 1, hp, v_mmus)) ∨
    (∃ r ms' vm' M', f_RoomFills_must N tc vms (p_I n) p1 p2 = some (0, r, (if r = true then 0 else tc), ms') ∧ f_Model_must N 6 c1 vst vpi (p_I n) vle vmo hp c2 c3 c4 c5 v_mmus p1 p2 = some (r, 0, (if r = true then false else hp), vm') ∧ z_must n M' ms' vm' ∧ (r = false → M' = M)) := by
  obtain ⟨rfl, h1, h2⟩ := hz
  have h64 := p_2n n (by omega)
  obtain ⟨x, rfl, g1, g2⟩ := p_al p1
  have t1 : p_I x < 0 ↔ x < 0 := by rw [p_0, p_Ilt] <;> omega
  have t2 : p_I x < p_I n ↔ ¬ ((n : Int) ≤ x) := by rw [p_Ilt] <;> omega
  have t2' : p_I n ≤ p_I x ↔ ((n : Int) ≤ x) := by rw [p_Ile] <;> omega
  have d1 : (0 : Int32) < 1 := by decide
  have d0 : ¬ ((0 : Int32) < 0) := by decide
  unfold f_RoomFills_must f_RoomFills_demandItem f_Model_must f_Model_isItem f_Model_change
  by_cases e1 : x < 0
  · left
    exact ⟨by simp [t1, e1], by simp [t1, e1, d1]⟩
  by_cases e2 : (n : Int) ≤ x
  · left
    exact ⟨by simp [t1, t2, e1, e2], by simp [t1, t2', e1, e2, d1]⟩
  right
  obtain ⟨a, ha⟩ : ∃ a : Nat, x = (a : Int) := ⟨x.toNat, by omega⟩
  subst ha
  have j1 : ¬ (6 ≤ a) := by omega
  unfold f_Items_setMust f_RoomFills_news
  simp only [t1, t2, t2', e1, e2, if_true, if_false, not_false_eq_true, Option.bind, d0, p_ix a (by omega), j1, or_self, p_bit a (by omega), h2 a (by omega), p_nb, p_bIeq]
  obtain ⟨l1, l2⟩ := p_ltp M (by omega) n (by omega) h1 a (by omega)
  cases hb : Nat.testBit M a with
  | true =>
    cases p2 with
    | true =>
      rw [if_pos rfl, p_or M (by omega) a (by omega), p_or2 M (by omega) a (by omega) hb, if_pos rfl, if_pos rfl]
      exact ⟨false, p_I M, v_mmus, M, rfl, rfl, ⟨rfl, h1, h2⟩, fun _ => rfl⟩
    | false =>
      rw [if_neg (by decide), p_cl M (by omega) a (by omega) hb, if_neg (p_ne2 M (by omega) a (by omega) hb), if_neg (by decide)]
      refine ⟨true, p_I ((M - 2 ^ a : Nat) : Int), upd v_mmus a (bI false), M - 2 ^ a, rfl, rfl, ⟨rfl, l2, fun k hk => ?_⟩, fun h => by cases h⟩
      rw [p_u, p_tb1 M (by omega) a (by omega) k hk hb]
      by_cases c : k = a
      · rw [if_pos c]; simp [c]
      · rw [if_neg c, h2 k hk, show (k == a) = false from beq_false_of_ne c, Bool.not_false, Bool.and_true]
  | false =>
    cases p2 with
    | true =>
      rw [if_pos rfl, p_or M (by omega) a (by omega), if_neg (p_ne1 M (by omega) a (by omega) hb), if_neg (by decide)]
      refine ⟨true, p_I ((M ||| 2 ^ a : Nat) : Int), upd v_mmus a (bI true), M ||| 2 ^ a, rfl, rfl, ⟨rfl, l1, fun k hk => ?_⟩, fun h => by cases h⟩
      rw [p_u, p_b6 M (by omega) a (by omega) k hk]
      by_cases c : k = a
      · rw [if_pos c]; simp [c]
      · rw [if_neg c, h2 k hk, show (k == a) = false from beq_false_of_ne c, Bool.or_false]
    | false =>
      rw [if_neg (by decide), p_cl2 M (by omega) a (by omega) hb, if_pos rfl, if_pos rfl]
      exact ⟨false, p_I M, v_mmus, M, rfl, rfl, ⟨rfl, h1, h2⟩, fun _ => rfl⟩
