theorem r_rd_upd {S n : Nat} {v u v' u' : Nat → Int64} {Rw Rc : Nat → Nat → Nat → Int} {a b U : Nat} (hn : n ≤ 6) (hb : b < 8) (hU : U < 64) (h : r_rd S n v u Rw Rc a) (hj : ∀ j, j ≠ 512 * a + 64 * b + U → v' j = v j ∧ u' j = u j) : r_rd S n v' u' Rw Rc a := by
  have h64 := p_2n n (by omega)
  intro a' b' U' h1 h2 h3 h4
  obtain ⟨q1, q2⟩ := hj (512 * a' + 64 * b' + U') (by omega)
  rw [q1, q2]
  exact h a' b' U' h1 h2 h3 h4
section
variable (N : Nat) (c1 : Int32) (vst vpi : Int32) (hp : Bool) (c2 c3 : Int32) (c4 c5 : Int64)
theorem r_at_cut0 {S n : Nat} (hS : S ≤ 40) {w : Nat → Nat} {wo co : Nat → Int} {nw : Nat → Nat → Int} {bar : Nat → Nat → Bool} {v_mwor v_mcen v_mnea : Nat → Int64} {v_mwid v_mbar v_mclr v_mmet : Nat → Int32} (v_mfree v_mend : Nat → Int32) (hr : r_ref n wo co nw bar v_mwor v_mcen v_mnea v_mbar) (hw : ∀ k, k < n → v_mwid k = p_I (w k) ∧ 1 ≤ w k ∧ w k ≤ 20) {a b U o : Nat} {mt : Nat → Bool} (least : Nat) (vmo : Int32) (ha : a < S) (hb : b < 8) (hU : U < 64) (hU2 : U < 2 ^ n) (ho : a + o ≤ S) (hc : v_mclr a = p_I o) (hm : ∀ k, k < n → (v_mmet (41 * k + a) = 0 ↔ mt k = false)) (Rw Rc : Nat → Nat → Nat → Int) (hRb : ∀ a' b U, a < a' → a' ≤ S → b < 8 → U < 2 ^ n → -1 ≤ Rw a' b U ∧ Rw a' b U ≤ 4600000 ∧ (0 ≤ Rw a' b U → 0 ≤ Rc a' b U ∧ Rc a' b U ≤ 600000)) :
    ∀ d m e : Nat, ∀ (v u : Nat → Int64) (tw tc : Int), e + d = n → d < m → r_rd S n v u Rw Rc a → v (512 * a + 64 * b + U) = p_J tw → u (512 * a + 64 * b + U) = p_J tc → (-1 ≤ tw ∧ tw ≤ 5000000) → (0 ≤ tc ∧ tc ≤ 5000000) → ww_lex (r_Q n w o mt nw bar wo co Rw Rc a b U e) tw tc →
    ∃ m' v' u' tw' tc', f_Model_fillAt_cut N 41 6 6 6 36 36 20992 20992 64 42 246 c1 vst vpi (p_I n) (p_I least) vmo hp c2 c3 c4 c5 v_mfree v_mwid v_mwor v_mcen v_mnea v_mbar v_mend v_mclr v_mmet m 0 (p_I a) (p_I b) (p_I U) (p_I ((512 * a + 64 * b + U : Nat) : Int)) (p_I e) v u = f_Model_fillAt_cut N 41 6 6 6 36 36 20992 20992 64 42 246 c1 vst vpi (p_I n) (p_I least) vmo hp c2 c3 c4 c5 v_mfree v_mwid v_mwor v_mcen v_mnea v_mbar v_mend v_mclr v_mmet m' 1 (p_I a) (p_I b) (p_I U) (p_I ((512 * a + 64 * b + U : Nat) : Int)) (p_I least) v' u' ∧ m = m' + d + 1 ∧ r_rd S n v' u' Rw Rc a ∧ v' (512 * a + 64 * b + U) = p_J tw' ∧ u' (512 * a + 64 * b + U) = p_J tc' ∧ (-1 ≤ tw' ∧ tw' ≤ 5000000) ∧ (0 ≤ tc' ∧ tc' ≤ 5000000) ∧ ww_lex (r_Q n w o mt nw bar wo co Rw Rc a b U n) tw' tc' ∧ (∀ j, j ≠ 512 * a + 64 * b + U → v' j = v j ∧ u' j = u j)
  | 0, m + 1, e, v, u, tw, tc, h, _, h1, h2, h3, h4, h5, h6 => by
    have hn := hr.1
    obtain rfl : e = n := by omega
    refine ⟨m, v, u, tw, tc, ?_, by omega, h1, h2, h3, h4, h5, h6, fun j _ => ⟨rfl, rfl⟩⟩
    rw [f_Model_fillAt_cut_0, if_pos (by rw [p_Ile] <;> omega)]
  | d + 1, m + 1, e, v, u, tw, tc, h, hmm, h1, h2, h3, h4, h5, h6 => by
    have hn := hr.1
    have h64 := p_2n n (by omega)
    obtain ⟨w1, w2, w3⟩ := hw e (by omega)
    obtain ⟨-, r1, r2, r3, r4, r5, r6⟩ := hr
    have hr : r_ref n wo co nw bar v_mwor v_mcen v_mnea v_mbar := ⟨hn, r1, r2, r3, r4, r5, r6⟩
    rw [f_Model_fillAt_cut_0, if_neg (by rw [p_Ile] <;> omega), r_may N c1 vst vpi (p_I n) (p_I least) vmo hp c2 c3 c4 c5 hr hw (a := a) (b := b) (U := U) (k := e) (o := o) (mt := mt e) (by omega) hb hU (by omega) (by omega) hc (hm e (by omega))]
    simp only [Option.bind]
    by_cases c : (!(Nat.testBit U e) && (decide (w e ≤ o) && (mt e && !(bar e (p_sg b))))) = true
    · rw [if_pos c]
      rw [Bool.and_eq_true, Bool.and_eq_true, Bool.and_eq_true, Bool.not_eq_true', Bool.not_eq_true', decide_eq_true_eq] at c
      obtain ⟨e1, e2, e3, e4⟩ := c
      have hU' := p_b7 U hU n (by omega) hU2 e (by omega)
      rw [if_neg (p_in (by omega) (by omega)), p_ix e (by omega), w1]
      unfold f_Model_index
      simp only [Option.bind]
      rw [r_wb N c1 vst vpi (p_I n) (p_I least) vmo hp c2 c3 c4 c5 hr hb (by omega)]
      simp only [Option.bind]
      rw [if_neg (p_inx (by omega) (by omega)), (r1 e (by omega)).2, p_bit e (by omega), p_or U hU e (by omega), p_addN, p_mix, p_up]
      obtain ⟨g1, g2⟩ := h1 (a + w e) e (U ||| 2 ^ e) (by omega) (by omega) (by omega) hU'
      obtain ⟨b1, b2, b3⟩ := hRb (a + w e) e (U ||| 2 ^ e) (by omega) (by omega) (by omega) hU'
      have n1 := r4 e
      have n2 := r5 e
      have n3 := r6 e (p_sg b)
      obtain ⟨v', u', k1, k2, k3, k4⟩ := r_choose N c1 vst vpi (p_I n) (p_I least) vmo hp c2 c3 c4 c5 v u (to := 512 * a + 64 * b + U) (fm := 512 * (a + w e) + 64 * e + (U ||| 2 ^ e)) (by omega) (by omega) h2 h3 g1 g2 h4 h5 (by omega) (fun q => by have := b3 q; omega) (wo := wo e + nw e (p_sg b)) (co := co e) (by omega) (by omega)
      rw [k1]
      simp only [Option.bind]
      by_cases c0 : Rw (a + w e) e (U ||| 2 ^ e) < 0
      · obtain ⟨rfl, rfl⟩ := k2 c0
        obtain ⟨m', v2, u2, tw', tc', j1, j2, j3⟩ := r_at_cut0 hS v_mfree v_mend hr hw least vmo ha hb hU hU2 ho hc hm Rw Rc hRb d m (e + 1) v' u' tw tc (by omega) (by omega) h1 h2 h3 h4 h5 ((ww_lex_iff (fun x y => by
          constructor
          · rintro ⟨k, q1, q2⟩
            exact ⟨k, by omega, q2⟩
          · rintro ⟨k, q1, q2⟩
            by_cases ck : k = e
            · subst ck; have := q2.2.2.2.2.1; omega
            · exact ⟨k, by omega, q2⟩) tw tc).1 h6)
        exact ⟨m', v2, u2, tw', tc', j1, by omega, j3⟩
      · obtain ⟨k5, k6⟩ := k3 (by omega)
        have b3 := b3 (by omega)
        obtain ⟨m', v2, u2, tw', tc', j1, j2, j3, j4, j5, j6, j7, j8, j9⟩ := r_at_cut0 hS v_mfree v_mend hr hw least vmo ha hb hU hU2 ho hc hm Rw Rc hRb d m (e + 1) v' u' _ _ (by omega) (by omega) (r_rd_upd hn hb hU h1 k4) k5 k6 (by split <;> omega) (by split <;> omega) (ww_lex_add (by omega) h6 (by
          intro x y
          constructor
          · rintro ⟨k, q1, q2⟩
            by_cases ck : k = e
            · subst ck; exact Or.inr q2.2.2.2.2.2
            · exact Or.inl ⟨k, by omega, q2⟩
          · rintro (⟨k, q1, q2⟩ | q)
            · exact ⟨k, by omega, q2⟩
            · exact ⟨e, by omega, e1, e2, e3, e4, by omega, q⟩))
        exact ⟨m', v2, u2, tw', tc', j1, by omega, j3, j4, j5, j6, j7, j8, fun j hj => ⟨(j9 j hj).1.trans (k4 j hj).1, (j9 j hj).2.trans (k4 j hj).2⟩⟩
    · rw [if_neg c, p_up]
      obtain ⟨m', v2, u2, tw', tc', j1, j2, j3⟩ := r_at_cut0 hS v_mfree v_mend hr hw least vmo ha hb hU hU2 ho hc hm Rw Rc hRb d m (e + 1) v u tw tc (by omega) (by omega) h1 h2 h3 h4 h5 ((ww_lex_iff (fun x y => by
          constructor
          · rintro ⟨k, q1, q2⟩
            exact ⟨k, by omega, q2⟩
          · rintro ⟨k, q1, q2⟩
            by_cases ck : k = e
            · subst ck
              refine absurd ?_ c
              rw [q2.1, q2.2.2.1, q2.2.2.2.1, decide_eq_true q2.2.1]; rfl
            · exact ⟨k, by omega, q2⟩) tw tc).1 h6)
      exact ⟨m', v2, u2, tw', tc', j1, by omega, j3⟩
theorem r_at_cut1 {S n : Nat} (hS : S ≤ 40) (hn : n ≤ 6) {w : Nat → Nat} {wo co : Nat → Int} {nw : Nat → Nat → Int} {bar : Nat → Nat → Bool} (v_mwor v_mcen v_mnea : Nat → Int64) (v_mwid v_mbar v_mclr v_mmet : Nat → Int32) (v_mfree v_mend : Nat → Int32) {a b U o : Nat} {mt : Nat → Bool} (vle : Int32) (least most : Nat) (hle : 1 ≤ least) (hmo : most ≤ 40) (ha : a < S) (hb : b < 8) (hU : U < 64) (hU2 : U < 2 ^ n) (ho : a + o ≤ S) (hc : v_mclr a = p_I o) (Rw Rc : Nat → Nat → Nat → Int) (hRb : ∀ a' b U, a < a' → a' ≤ S → b < 8 → U < 2 ^ n → -1 ≤ Rw a' b U ∧ Rw a' b U ≤ 4600000 ∧ (0 ≤ Rw a' b U → 0 ≤ Rc a' b U ∧ Rc a' b U ≤ 600000)) :
    ∀ d m f : Nat, ∀ (v u : Nat → Int64) (tw tc : Int), 41 - f = d → d < m → least ≤ f → f ≤ 41 → r_rd S n v u Rw Rc a → v (512 * a + 64 * b + U) = p_J tw → u (512 * a + 64 * b + U) = p_J tc → (-1 ≤ tw ∧ tw ≤ 5000000) → (0 ≤ tc ∧ tc ≤ 5000000) → ww_lex (r_Q2 n w o mt nw bar wo co least most Rw Rc a b U f) tw tc →
    ∃ v' u' tw' tc', f_Model_fillAt_cut N 41 6 6 6 36 36 20992 20992 64 42 246 c1 vst vpi (p_I n) vle (p_I most) hp c2 c3 c4 c5 v_mfree v_mwid v_mwor v_mcen v_mnea v_mbar v_mend v_mclr v_mmet m 1 (p_I a) (p_I b) (p_I U) (p_I ((512 * a + 64 * b + U : Nat) : Int)) (p_I f) v u = some (v', u') ∧ v' (512 * a + 64 * b + U) = p_J tw' ∧ u' (512 * a + 64 * b + U) = p_J tc' ∧ ww_lex (r_Q2 n w o mt nw bar wo co least most Rw Rc a b U 1000) tw' tc' ∧ (∀ j, j ≠ 512 * a + 64 * b + U → v' j = v j ∧ u' j = u j)
  | d, m, f, v, u, tw, tc, hd, hm, hf1, hf2, h1, h2, h3, h4, h5, h6 => by
    obtain ⟨m, rfl⟩ : ∃ m', m = m' + 1 := ⟨m - 1, by omega⟩
    have stop : (most < f ∨ o < f ∨ b = 7) → ww_lex (r_Q2 n w o mt nw bar wo co least most Rw Rc a b U 1000) tw tc := by
      intro hs
      refine (ww_lex_iff (fun x y => ?_) tw tc).1 h6
      constructor
      · rintro (q | ⟨q1, g, q2, q3⟩)
        · exact Or.inl q
        · exact Or.inr ⟨q1, g, by omega, q3⟩
      · rintro (q | ⟨q1, g, q2, q3, q4, q5, q6⟩)
        · exact Or.inl q
        · exact Or.inr ⟨q1, g, by omega, q3, q4, q5, q6⟩
    rw [f_Model_fillAt_cut_1]
    by_cases e1 : most < f
    · rw [if_pos (by rw [p_Ilt] <;> omega)]
      exact ⟨v, u, tw, tc, rfl, h2, h3, stop (Or.inl e1), fun j _ => ⟨rfl, rfl⟩⟩
    rw [if_neg (by rw [p_Ilt] <;> omega), if_neg (p_in (by omega) (by omega)), p_ix a (by omega), hc]
    by_cases e2 : o < f
    · rw [if_pos (by rw [p_Ilt] <;> omega)]
      exact ⟨v, u, tw, tc, rfl, h2, h3, stop (Or.inr (Or.inl e2)), fun j _ => ⟨rfl, rfl⟩⟩
    rw [if_neg (by rw [p_Ilt] <;> omega)]
    by_cases e3 : b = 7
    · rw [if_pos (by rw [e3]; decide)]
      exact ⟨v, u, tw, tc, rfl, h2, h3, stop (Or.inr (Or.inr e3)), fun j _ => ⟨rfl, rfl⟩⟩
    rw [if_neg (by rw [p_7, p_Ieq] <;> omega)]
    unfold f_Model_index
    simp only [Option.bind]
    rw [p_addN, show (7 : Int32) = p_I ((7 : Nat) : Int) by decide, p_mix, p_up, p_J0]
    have h64 := p_2n n (by omega)
    obtain ⟨g1, g2⟩ := h1 (a + f) 7 U (by omega) (by omega) (by omega) hU2
    obtain ⟨b1, b2, b3⟩ := hRb (a + f) 7 U (by omega) (by omega) (by omega) hU2
    obtain ⟨v', u', k1, k2, k3, k4⟩ := r_choose N c1 vst vpi (p_I n) vle (p_I most) hp c2 c3 c4 c5 v u (to := 512 * a + 64 * b + U) (fm := 512 * (a + f) + 64 * 7 + U) (by omega) (by omega) h2 h3 g1 g2 h4 h5 (by omega) (fun q => by have := b3 q; omega) (wo := 0) (co := 0) (by omega) (by omega)
    rw [k1]
    simp only [Option.bind]
    cases d with
    | zero => omega
    | succ d =>
    by_cases c0 : Rw (a + f) 7 U < 0
    · obtain ⟨rfl, rfl⟩ := k2 c0
      exact r_at_cut1 hS hn v_mwor v_mcen v_mnea v_mwid v_mbar v_mclr v_mmet v_mfree v_mend vle least most hle hmo ha hb hU hU2 ho hc Rw Rc hRb d m (f + 1) v' u' tw tc (by omega) (by omega) (by omega) (by omega) h1 h2 h3 h4 h5 ((ww_lex_iff (fun x y => by
          constructor
          · rintro (q | ⟨q1, g, q2, q3⟩)
            · exact Or.inl q
            · exact Or.inr ⟨q1, g, by omega, q3⟩
          · rintro (q | ⟨q1, g, q2, q3, q4, q5, q6, q7⟩)
            · exact Or.inl q
            · by_cases ck : g = f
              · subst ck; omega
              · exact Or.inr ⟨q1, g, by omega, q3, q4, q5, q6, q7⟩) tw tc).1 h6)
    · obtain ⟨k5, k6⟩ := k3 (by omega)
      have b3 := b3 (by omega)
      obtain ⟨v2, u2, tw', tc', j1, j2, j3, j4, j5⟩ := r_at_cut1 hS hn v_mwor v_mcen v_mnea v_mwid v_mbar v_mclr v_mmet v_mfree v_mend vle least most hle hmo ha hb hU hU2 ho hc Rw Rc hRb d m (f + 1) v' u' _ _ (by omega) (by omega) (by omega) (by omega) (r_rd_upd hn hb hU h1 k4) k5 k6 (by split <;> omega) (by split <;> omega) (ww_lex_add (by omega) h6 (by
          intro x y
          constructor
          · rintro (q | ⟨q1, g, q2, q3, q4, q5, q6, q7, q8⟩)
            · exact Or.inl (Or.inl q)
            · by_cases ck : g = f
              · subst ck; exact Or.inr ⟨by omega, by omega⟩
              · exact Or.inl (Or.inr ⟨q1, g, by omega, q3, q4, q5, q6, q7, q8⟩)
          · rintro ((q | ⟨q1, g, q2, q3⟩) | q)
            · exact Or.inl q
            · exact Or.inr ⟨q1, g, by omega, q3⟩
            · exact Or.inr ⟨e3, f, by omega, hf1, by omega, by omega, by omega, by omega, by omega⟩))
      exact ⟨v2, u2, tw', tc', j1, j2, j3, j4, fun j hj => ⟨(j5 j hj).1.trans (k4 j hj).1, (j5 j hj).2.trans (k4 j hj).2⟩⟩
termination_by d => d
end
theorem r_Q2_B {S n : Nat} {free : Nat → Bool} {w : Nat → Nat} {met : Nat → Nat → Bool} {nw : Nat → Nat → Int} {bar : Nat → Nat → Bool} {least most : Nat} {wo co : Nat → Int} {mE : Nat → Bool} (hn : n ≤ 6) (hS : S ≤ 40) (hw : ∀ k, k < n → 1 ≤ w k) (hle : 1 ≤ least) {a b U : Nat} (ha : a < S) (hf : free a = false) (hb : b < 8) (hU : U < 64) (hU2 : U < 2 ^ n) (Rw Rc : Nat → Nat → Nat → Int) (hB : ∀ a' b U, a < a' → a' ≤ S → b < 8 → U < 2 ^ n → ww_B S n free w met nw bar least most wo co mE a' (p_sg b) U (Rw a' b U) (Rc a' b U)) (hwo : ∀ k, 0 ≤ wo k) (hnw : ∀ k b, 0 ≤ nw k b) {x y : Int}
    (h : ww_lex (r_Q2 n w (ww_op free (S - a) a) (fun k => met k a) nw bar wo co least most Rw Rc a b U 1000) x y) : ww_B S n free w met nw bar least most wo co mE a (p_sg b) U x y := by
  have hop := ww_op_le free (S - a) a
  have hsg : b ≠ 7 ↔ p_sg b ≠ 6 := by unfold p_sg; split <;> (try split) <;> omega
  have s7 : p_sg 7 = 6 := rfl
  have key : ∀ p q, ww_C S n free w met nw bar least most wo co mE a (p_sg b) U p q → ∃ p' q', (p < p' ∨ (p = p' ∧ q' ≤ q)) ∧ r_Q2 n w (ww_op free (S - a) a) (fun k => met k a) nw bar wo co least most Rw Rc a b U 1000 p' q' := by
    intro p q hpq
    rcases (ww_C_step S n free w met nw bar least most wo co mE hn ha hf (p_sg b) hU p q).1 hpq with ⟨k, q1, q2, q3, q4, q5, x', y', q6, q7, q8⟩ | ⟨q1, f, q2, q3, q4, q5⟩
    · have w1 := hw k q1
      have hBk := hB (a + w k) k (U ||| 2 ^ k) (by omega) (by omega) (by omega) (p_b7 U hU n (by omega) hU2 k q1)
      rw [p_sg_6 (by omega)] at hBk
      have g1 := ww_lex_ge hBk q6
      exact ⟨_, _, by omega, Or.inl ⟨k, q1, q2, q3, q4, q5, g1.1, rfl, rfl⟩⟩
    · have hBf := hB (a + f) 7 U (by omega) (by omega) (by omega) hU2
      rw [s7] at hBf
      have g1 := ww_lex_ge hBf q5
      exact ⟨_, _, g1.2, Or.inr ⟨hsg.2 q1, f, by omega, q2, q3, q4, g1.1, rfl, rfl⟩⟩
  have back : ∀ p q, r_Q2 n w (ww_op free (S - a) a) (fun k => met k a) nw bar wo co least most Rw Rc a b U 1000 p q → ww_C S n free w met nw bar least most wo co mE a (p_sg b) U p q := by
    rintro p q (⟨k, q1, q2, q3, q4, q5, q6, q7, q8⟩ | ⟨q1, f, q2, q3, q4, q5, q6, q7, q8⟩)
    · have w1 := hw k q1
      have hBk := hB (a + w k) k (U ||| 2 ^ k) (by omega) (by omega) (by omega) (p_b7 U hU n (by omega) hU2 k q1)
      rw [p_sg_6 (by omega)] at hBk
      exact (ww_C_step S n free w met nw bar least most wo co mE hn ha hf (p_sg b) hU p q).2 (Or.inl ⟨k, q1, q2, q3, q4, q5, _, _, ww_lex_get hBk q6, q7, q8⟩)
    · have hBf := hB (a + f) 7 U (by omega) (by omega) (by omega) hU2
      rw [s7] at hBf
      refine (ww_C_step S n free w met nw bar least most wo co mE hn ha hf (p_sg b) hU p q).2 (Or.inr ⟨hsg.1 q1, f, q3, q4, q5, ?_⟩)
      rw [q7, q8]
      exact ww_lex_get hBf q6
  rcases h with ⟨h1, h2⟩ | ⟨h1, h2, h3⟩
  · refine Or.inl ⟨h1, fun p q hpq => ?_⟩
    obtain ⟨p', q', -, h4⟩ := key p q hpq
    exact h2 p' q' h4
  · refine Or.inr ⟨h1, back x y h2, fun p q hpq => ?_⟩
    obtain ⟨p', q', h4, h5⟩ := key p q hpq
    have := h3 p' q' h5
    omega
