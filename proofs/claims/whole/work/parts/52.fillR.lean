section
variable (N : Nat) (c1 : Int32) (hp : Bool) (c2 c3 : Int32) (c4 c5 : Int64)
theorem r_at (hN : 30000 ≤ N) (vpi : Int32) {S n : Nat} (hS : S ≤ 40) {free : Nat → Bool} {w : Nat → Nat} {met : Nat → Nat → Bool} {wo co : Nat → Int} {nw : Nat → Nat → Int} {bar : Nat → Nat → Bool} {least most : Nat} {mE : Nat → Bool} {v_mwor v_mcen v_mnea : Nat → Int64} {v_mfree v_mend v_mwid v_mbar v_mclr v_mmet : Nat → Int32} (hr : r_ref n wo co nw bar v_mwor v_mcen v_mnea v_mbar) (hw : ∀ k, k < n → v_mwid k = p_I (w k) ∧ 1 ≤ w k ∧ w k ≤ 20) (hle : 1 ≤ least ∧ least ≤ 40) (hmo : most ≤ 40) (hfr : ∀ k, k < S → (v_mfree k = 0 ↔ free k = false)) (hend : ∀ U, U < 2 ^ n → (v_mend U = 0 ↔ mE U = false)) (hc : ∀ a, a ≤ S → v_mclr a = p_I (ww_op free (S - a) a)) (hm : ∀ k a, k < n → a < S → (v_mmet (41 * k + a) = 0 ↔ met k a = false)) {a b U : Nat} (ha : a ≤ S) (hb : b < 8) (hU2 : U < 2 ^ n) (v u : Nat → Int64) (Rw Rc : Nat → Nat → Nat → Int) (hrd : r_rd S n v u Rw Rc a) (hB : ∀ a' b U, a < a' → a' ≤ S → b < 8 → U < 2 ^ n → ww_B S n free w met nw bar least most wo co mE a' (p_sg b) U (Rw a' b U) (Rc a' b U)) :
    ∃ v' u' tw tc, f_Model_fillAt N 41 6 6 6 36 36 20992 20992 64 42 246 c1 (p_I S) vpi (p_I n) (p_I least) (p_I most) hp c2 c3 c4 c5 v_mfree v_mwid v_mwor v_mcen v_mnea v_mbar v u v_mend v_mclr v_mmet (p_I a) (p_I b) (p_I U) = some (v', u') ∧ v' (512 * a + 64 * b + U) = p_J tw ∧ u' (512 * a + 64 * b + U) = p_J tc ∧ ww_B S n free w met nw bar least most wo co mE a (p_sg b) U tw tc ∧ (∀ j, j ≠ 512 * a + 64 * b + U → v' j = v j ∧ u' j = u j) := by
  have hn := hr.1
  obtain ⟨-, r1, r2, r3, r4, r5, r6⟩ := hr
  have hr : r_ref n wo co nw bar v_mwor v_mcen v_mnea v_mbar := ⟨hn, r1, r2, r3, r4, r5, r6⟩
  have h64 := p_2n n (by omega)
  have hop := ww_op_le free (S - a) a
  have i1 := p_inx (k := 512 * a + 64 * b + U) (n := 20992) (by omega) (by omega)
  have i2 := p_inx (k := U) (n := 64) (by omega) (by omega)
  have i3 := p_inx (k := a) (n := 41) (by omega) (by omega)
  have hRb : ∀ a' b U, a < a' → a' ≤ S → b < 8 → U < 2 ^ n → -1 ≤ Rw a' b U ∧ Rw a' b U ≤ 4600000 ∧ (0 ≤ Rw a' b U → 0 ≤ Rc a' b U ∧ Rc a' b U ≤ 600000) := fun a' b U q1 q2 q3 q4 => ww_B_bd hS r6 (fun k hk => (hw k hk).2.1) r4 r5 (hB a' b U q1 q2 q3 q4)
  unfold f_Model_fillAt f_Model_index
  simp only [Option.bind]
  rw [p_mix]
  simp only [p_ix (512 * a + 64 * b + U) (by omega), p_ix U (by omega), p_ix a (by omega), i1, i2, i3, if_false]
  by_cases e0 : a = S
  · rw [if_pos (by rw [e0])]
    by_cases e1 : mE U = true
    · rw [if_neg (by rw [hend U hU2, e1]; decide)]
      refine ⟨_, _, 0, 0, rfl, by rw [p_uL, if_pos rfl]; rfl, by rw [p_uL, if_pos rfl]; rfl, ?_, fun j hj => ⟨by rw [p_uL, if_neg hj, p_uL, if_neg hj], by rw [p_uL, if_neg hj]⟩⟩
      subst e0
      exact Or.inr ⟨Int.le_refl _, (ww_C_end _ n free w met nw bar least most wo co mE _ _ _ _).2 ⟨e1, rfl, rfl⟩, fun x y h => by have := (ww_C_end _ n free w met nw bar least most wo co mE _ _ _ _).1 h; omega⟩
    · rw [if_pos (by rw [hend U hU2]; simpa using e1)]
      refine ⟨_, _, -1, 0, rfl, by rw [p_uL, if_pos rfl]; rfl, by rw [p_uL, if_pos rfl]; rfl, ?_, fun j hj => ⟨by rw [p_uL, if_neg hj, p_uL, if_neg hj], by rw [p_uL, if_neg hj]⟩⟩
      subst e0
      exact Or.inl ⟨rfl, fun x y h => e1 ((ww_C_end _ n free w met nw bar least most wo co mE _ _ _ _).1 h).1⟩
  rw [if_neg (by rw [p_Ieq] <;> omega)]
  have q0 : ∀ j, j ≠ 512 * a + 64 * b + U → vp_updL v (512 * a + 64 * b + U) (-1) j = v j ∧ vp_updL u (512 * a + 64 * b + U) 0 j = u j := fun j hj => ⟨by rw [p_uL, if_neg hj], by rw [p_uL, if_neg hj]⟩
  have hrd0 := r_rd_upd hn hb (by omega) hrd q0
  have t1 : vp_updL v (512 * a + 64 * b + U) (-1) (512 * a + 64 * b + U) = p_J (-1) := by rw [p_uL, if_pos rfl]; rfl
  have t2 : vp_updL u (512 * a + 64 * b + U) 0 (512 * a + 64 * b + U) = p_J 0 := by rw [p_uL, if_pos rfl]; rfl
  by_cases e1 : free a = true
  · rw [if_neg (by rw [hfr a (by omega), e1]; decide), r_bf N c1 vpi (p_I n) (p_I least) (p_I most) hp c2 c3 c4 c5 hN S hS free v_mfree hfr ha]
    simp only [Option.bind]
    have hbf := ww_bf_le free (S - (a + 1)) (a + 1)
    have hbe : ww_bf free (S - a) a = ww_bf free (S - (a + 1)) (a + 1) := by
      rw [show S - a = (S - (a + 1)) + 1 by omega]
      conv => lhs; unfold ww_bf
      rw [if_pos e1]
    rw [← hbe] at hbf
    rw [show (6 : Int32) = p_I ((6 : Nat) : Int) by decide, p_mix]
    obtain ⟨g1, g2⟩ := hrd0 (ww_bf free (S - a) a) 6 U (by omega) (by omega) (by omega) hU2
    obtain ⟨b1, b2, b3⟩ := hRb (ww_bf free (S - a) a) 6 U (by omega) (by omega) (by omega) hU2
    have hB6 := hB (ww_bf free (S - a) a) 6 U (by omega) (by omega) (by omega) hU2
    obtain ⟨v', u', k1, k2, k3, k4⟩ := r_choose N c1 (p_I S) vpi (p_I n) (p_I least) (p_I most) hp c2 c3 c4 c5 (vp_updL v (512 * a + 64 * b + U) (-1)) (vp_updL u (512 * a + 64 * b + U) 0) (to := 512 * a + 64 * b + U) (fm := 512 * ww_bf free (S - a) a + 64 * 6 + U) (by omega) (by omega) t1 t2 g1 g2 (by omega) (by omega) (by omega) (fun q => by have := b3 q; omega) (wo := 0) (co := 0) (by omega) (by omega)
    have hj : ∀ j, j ≠ 512 * a + 64 * b + U → v' j = v j ∧ u' j = u j := fun j hj => ⟨(k4 j hj).1.trans (q0 j hj).1, (k4 j hj).2.trans (q0 j hj).2⟩
    have hCC : ∀ x y, ww_C S n free w met nw bar least most wo co mE (ww_bf free (S - a) a) 7 U x y ↔ ww_C S n free w met nw bar least most wo co mE a (p_sg b) U x y := fun x y => (ww_bf_C S n free w met nw bar least most wo co mE (S - a) a (p_sg b) U x y (by omega) (Or.inl ⟨by omega, e1⟩)).symm
    have hB7 : ww_B S n free w met nw bar least most wo co mE a (p_sg b) U (Rw (ww_bf free (S - a) a) 6 U) (Rc (ww_bf free (S - a) a) 6 U) := (ww_lex_iff hCC _ _).1 hB6
    have fin : ∃ v'' u'' tw tc, some (v', u') = some (v'', u'') ∧ v'' (512 * a + 64 * b + U) = p_J tw ∧ u'' (512 * a + 64 * b + U) = p_J tc ∧ ww_B S n free w met nw bar least most wo co mE a (p_sg b) U tw tc ∧ (∀ j, j ≠ 512 * a + 64 * b + U → v'' j = v j ∧ u'' j = u j) := by
      by_cases c0 : Rw (ww_bf free (S - a) a) 6 U < 0
      · obtain ⟨rfl, rfl⟩ := k2 c0
        refine ⟨_, _, -1, 0, rfl, t1, t2, ?_, hj⟩
        have : Rw (ww_bf free (S - a) a) 6 U = -1 := by omega
        rw [this] at hB7
        rcases hB7 with ⟨h1, h2⟩ | ⟨h1, h2, h3⟩
        · exact Or.inl ⟨h1, h2⟩
        · omega
      · obtain ⟨k5, k6⟩ := k3 (by omega)
        have b3 := b3 (by omega)
        rw [if_pos (by omega), Int.add_zero] at k5 k6
        exact ⟨_, _, _, _, rfl, k5, k6, hB7, hj⟩
    rw [show (p_J 0 : Int64) = 0 by decide] at k1
    rw [k1]
    exact fin
  · have e1' : free a = false := by simpa using e1
    rw [if_pos (by rw [hfr a (by omega)]; exact e1')]
    obtain ⟨m1, v1, u1, tw1, tc1, j1, j2, j3, j4, j5, j6, j7, j8, j9⟩ := r_at_cut0 N c1 (p_I S) vpi hp c2 c3 c4 c5 hS v_mfree v_mend hr hw (a := a) (b := b) (U := U) (o := ww_op free (S - a) a) (mt := fun k => met k a) least (p_I most) (by omega) hb (by omega) hU2 (by omega) (hc a ha) (fun k hk => hm k a hk (by omega)) Rw Rc hRb n N 0 _ _ (-1) 0 (by omega) (by omega) hrd0 t1 t2 (by omega) (by omega) (Or.inl ⟨rfl, fun x y h => by obtain ⟨k, q, -⟩ := h; omega⟩)
    obtain ⟨v2, u2, tw2, tc2, l1, l2, l3, l4, l5⟩ := r_at_cut1 N c1 (p_I S) vpi hp c2 c3 c4 c5 hS hn v_mwor v_mcen v_mnea v_mwid v_mbar v_mclr v_mmet v_mfree v_mend (p_I least) least most hle.1 hmo (by omega) hb (by omega) hU2 (by omega) (hc a ha) Rw Rc hRb (41 - least) m1 least v1 u1 tw1 tc1 rfl (by omega) (Nat.le_refl _) (by omega) j3 j4 j5 j6 j7 ((ww_lex_iff (fun x y => by
      constructor
      · intro q; exact Or.inl q
      · rintro (q | ⟨q1, g, q2, q3, q4⟩)
        · exact q
        · omega) tw1 tc1).1 j8)
    refine ⟨v2, u2, tw2, tc2, ?_, l2, l3, ?_, ?_⟩
    · exact j1.trans l1
    · exact r_Q2_B hn hS (fun k hk => (hw k hk).2.1) hle.1 (by omega) e1' hb (by omega) hU2 Rw Rc hB (fun k => (r4 k).1) (fun k b => (r6 k b).1) l4
    · exact fun j hj => ⟨(l5 j hj).1.trans ((j9 j hj).1.trans (q0 j hj).1), (l5 j hj).2.trans ((j9 j hj).2.trans (q0 j hj).2)⟩
end
