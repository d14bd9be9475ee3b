theorem p_Jrd (x : Int64) : p_J x.toInt = x := by
  unfold p_J
  exact Int64.ofInt_toInt x
def r_ok (S n : Nat) (free : Nat → Bool) (w : Nat → Nat) (met : Nat → Nat → Bool) (nw : Nat → Nat → Int) (bar : Nat → Nat → Bool) (least most : Nat) (wo co : Nat → Int) (mE : Nat → Bool) (v u : Nat → Int64) (a b U : Nat) : Prop :=
  ww_B S n free w met nw bar least most wo co mE a (p_sg b) U (v (512 * a + 64 * b + U)).toInt (u (512 * a + 64 * b + U)).toInt
theorem r_ok_of {S n : Nat} (hS : S ≤ 40) {free : Nat → Bool} {w : Nat → Nat} {met : Nat → Nat → Bool} {nw : Nat → Nat → Int} {bar : Nat → Nat → Bool} {least most : Nat} {wo co : Nat → Int} {mE : Nat → Bool} (hnw : ∀ k b, 0 ≤ nw k b ∧ nw k b ≤ 100000) (hw : ∀ k, k < n → 1 ≤ w k) (hwo : ∀ k, 0 ≤ wo k ∧ wo k ≤ 100000) (hco : ∀ k, 0 ≤ co k ∧ co k ≤ 100000) {v u : Nat → Int64} {a b U : Nat} {tw tc : Int} (h1 : v (512 * a + 64 * b + U) = p_J tw) (h2 : u (512 * a + 64 * b + U) = p_J tc) (h : ww_B S n free w met nw bar least most wo co mE a (p_sg b) U tw tc) : r_ok S n free w met nw bar least most wo co mE v u a b U := by
  obtain ⟨b1, b2, b3⟩ := ww_B_bd hS hnw hw hwo hco h
  unfold r_ok
  rw [h1, h2, p_Jint (by omega) (by omega)]
  by_cases c : 0 ≤ tw
  · have := b3 c
    rw [p_Jint (by omega) (by omega)]
    exact h
  · rcases h with ⟨q1, q2⟩ | ⟨q1, q2, q3⟩
    · exact Or.inl ⟨q1, q2⟩
    · omega
section
variable (N : Nat) (c1 : Int32) (hp : Bool) (c2 c3 : Int32) (c4 c5 : Int64)
theorem r_fill_cut2 (hN : 30000 ≤ N) (vpi : Int32) {S n : Nat} (hS : S ≤ 40) {free : Nat → Bool} {w : Nat → Nat} {met : Nat → Nat → Bool} {wo co : Nat → Int} {nw : Nat → Nat → Int} {bar : Nat → Nat → Bool} {least most : Nat} {mE : Nat → Bool} {v_mwor v_mcen v_mnea : Nat → Int64} {v_mfree v_mend v_mwid v_mbar v_mclr v_mmet : Nat → Int32} (v_mpip v_mnee : Nat → Int32) (hr : r_ref n wo co nw bar v_mwor v_mcen v_mnea v_mbar) (hw : ∀ k, k < n → v_mwid k = p_I (w k) ∧ 1 ≤ w k ∧ w k ≤ 20) (hle : 1 ≤ least ∧ least ≤ 40) (hmo : most ≤ 40) (hfr : ∀ k, k < S → (v_mfree k = 0 ↔ free k = false)) (hend : ∀ U, U < 2 ^ n → (v_mend U = 0 ↔ mE U = false)) (hc : ∀ a, a ≤ S → v_mclr a = p_I (ww_op free (S - a) a)) (hm : ∀ k a, k < n → a < S → (v_mmet (41 * k + a) = 0 ↔ met k a = false)) {a b : Nat} (ha : a ≤ S) (hb : b < 8) :
    ∀ d m e : Nat, ∀ (v u : Nat → Int64), e + d = 2 ^ n → d < m → (∀ a' b U, a < a' → a' ≤ S → b < 8 → U < 2 ^ n → r_ok S n free w met nw bar least most wo co mE v u a' b U) → (∀ U, U < e → r_ok S n free w met nw bar least most wo co mE v u a b U) →
    ∃ m' v' u', f_Model_fill_cut N 41 8 6 6 6 6 36 36 20992 20992 64 42 246 c1 (p_I S) vpi (p_I n) (p_I least) (p_I most) hp c2 c3 c4 c5 v_mfree v_mpip v_mwid v_mwor v_mcen v_mnee v_mnea v_mbar v_mend m 2 (p_I a) (p_I b) (p_I e) v u v_mclr v_mmet = f_Model_fill_cut N 41 8 6 6 6 6 36 36 20992 20992 64 42 246 c1 (p_I S) vpi (p_I n) (p_I least) (p_I most) hp c2 c3 c4 c5 v_mfree v_mpip v_mwid v_mwor v_mcen v_mnee v_mnea v_mbar v_mend m' 1 (p_I a) (p_I ((b + 1 : Nat) : Int)) 0 v' u' v_mclr v_mmet ∧ m = m' + d + 1 ∧ (∀ U, U < 2 ^ n → r_ok S n free w met nw bar least most wo co mE v' u' a b U) ∧ (∀ j, (∀ U, U < 2 ^ n → j ≠ 512 * a + 64 * b + U) → v' j = v j ∧ u' j = u j)
  | 0, m + 1, e, v, u, h, _, h1, h2 => by
    have hn := hr.1
    have h64 := p_2n n (by omega)
    refine ⟨m, v, u, ?_, by omega, ?_, fun j _ => ⟨rfl, rfl⟩⟩
    · rw [f_Model_fill_cut_2, p_bit n (by omega), if_pos (by rw [p_Ile] <;> omega), p_up]
    · intro U hU; exact h2 U (by omega)
  | d + 1, m + 1, e, v, u, h, hmm, h1, h2 => by
    have hn := hr.1
    have h64 := p_2n n (by omega)
    obtain ⟨-, r1, r2, r3, r4, r5, r6⟩ := hr
    have hr : r_ref n wo co nw bar v_mwor v_mcen v_mnea v_mbar := ⟨hn, r1, r2, r3, r4, r5, r6⟩
    obtain ⟨v1, u1, tw, tc, k1, k2, k3, k4, k5⟩ := r_at N c1 hp c2 c3 c4 c5 hN vpi hS hr hw hle hmo hfr hend hc hm ha hb (U := e) (by omega) v u (fun a b U => (v (512 * a + 64 * b + U)).toInt) (fun a b U => (u (512 * a + 64 * b + U)).toInt) (fun a' b' U' _ _ _ _ => ⟨(p_Jrd _).symm, (p_Jrd _).symm⟩) (fun a' b U q1 q2 q3 q4 => h1 a' b U q1 q2 q3 q4)
    have keep : ∀ a' b' U', (512 * a' + 64 * b' + U' ≠ 512 * a + 64 * b + e) → r_ok S n free w met nw bar least most wo co mE v u a' b' U' → r_ok S n free w met nw bar least most wo co mE v1 u1 a' b' U' := by
      intro a' b' U' q1 q2
      unfold r_ok at q2 ⊢
      rw [(k5 _ q1).1, (k5 _ q1).2]
      exact q2
    obtain ⟨m', v2, u2, j1, j2, j3, j4⟩ := r_fill_cut2 hN vpi hS v_mpip v_mnee hr hw hle hmo hfr hend hc hm ha hb d m (e + 1) v1 u1 (by omega) (by omega) (fun a' b' U' q1 q2 q3 q4 => keep a' b' U' (by omega) (h1 a' b' U' q1 q2 q3 q4)) (by
      intro U hU
      by_cases cU : U = e
      · subst cU
        exact r_ok_of hS r6 (fun k hk => (hw k hk).2.1) r4 r5 k2 k3 k4
      · exact keep a b U (by omega) (h2 U (by omega)))
    refine ⟨m', v2, u2, ?_, by omega, j3, ?_⟩
    · rw [f_Model_fill_cut_2, p_bit n (by omega), if_neg (by rw [p_Ile] <;> omega), k1]
      simp only [Option.bind]
      rw [p_up]
      exact j1
    · intro j hj
      obtain ⟨q1, q2⟩ := j4 j hj
      obtain ⟨q3, q4⟩ := k5 j (hj e (by omega))
      exact ⟨q1.trans q3, q2.trans q4⟩
theorem r_fill_cut1 (hN : 30000 ≤ N) (vpi : Int32) {S n : Nat} (hS : S ≤ 40) {free : Nat → Bool} {w : Nat → Nat} {met : Nat → Nat → Bool} {wo co : Nat → Int} {nw : Nat → Nat → Int} {bar : Nat → Nat → Bool} {least most : Nat} {mE : Nat → Bool} {v_mwor v_mcen v_mnea : Nat → Int64} {v_mfree v_mend v_mwid v_mbar v_mclr v_mmet : Nat → Int32} (v_mpip v_mnee : Nat → Int32) (hr : r_ref n wo co nw bar v_mwor v_mcen v_mnea v_mbar) (hw : ∀ k, k < n → v_mwid k = p_I (w k) ∧ 1 ≤ w k ∧ w k ≤ 20) (hle : 1 ≤ least ∧ least ≤ 40) (hmo : most ≤ 40) (hfr : ∀ k, k < S → (v_mfree k = 0 ↔ free k = false)) (hend : ∀ U, U < 2 ^ n → (v_mend U = 0 ↔ mE U = false)) (hc : ∀ a, a ≤ S → v_mclr a = p_I (ww_op free (S - a) a)) (hm : ∀ k a, k < n → a < S → (v_mmet (41 * k + a) = 0 ↔ met k a = false)) {a : Nat} (ha : a ≤ S) :
    ∀ d m e : Nat, ∀ (v u : Nat → Int64), e + d = 8 → 66 * d < m → (∀ a' b U, a < a' → a' ≤ S → b < 8 → U < 2 ^ n → r_ok S n free w met nw bar least most wo co mE v u a' b U) → (∀ b U, b < e → U < 2 ^ n → r_ok S n free w met nw bar least most wo co mE v u a b U) →
    ∃ m' v' u', f_Model_fill_cut N 41 8 6 6 6 6 36 36 20992 20992 64 42 246 c1 (p_I S) vpi (p_I n) (p_I least) (p_I most) hp c2 c3 c4 c5 v_mfree v_mpip v_mwid v_mwor v_mcen v_mnee v_mnea v_mbar v_mend m 1 (p_I a) (p_I e) 0 v u v_mclr v_mmet = f_Model_fill_cut N 41 8 6 6 6 6 36 36 20992 20992 64 42 246 c1 (p_I S) vpi (p_I n) (p_I least) (p_I most) hp c2 c3 c4 c5 v_mfree v_mpip v_mwid v_mwor v_mcen v_mnee v_mnea v_mbar v_mend m' 0 (p_I ((a : Int) - 1)) 0 0 v' u' v_mclr v_mmet ∧ m ≤ m' + 66 * d + 1 ∧ (∀ a' b U, a ≤ a' → a' ≤ S → b < 8 → U < 2 ^ n → r_ok S n free w met nw bar least most wo co mE v' u' a' b U)
  | 0, m + 1, e, v, u, h, _, h1, h2 => by
    refine ⟨m, v, u, ?_, by omega, ?_⟩
    · rw [f_Model_fill_cut_1, if_pos (by rw [p_8, p_Ile] <;> omega), p_m1, p_Iadd]
      rfl
    · intro a' b U q1 q2 q3 q4
      by_cases c : a' = a
      · subst c; exact h2 b U (by omega) q4
      · exact h1 a' b U (by omega) q2 q3 q4
  | d + 1, m + 1, e, v, u, h, hmm, h1, h2 => by
    have hn := hr.1
    have h64 := p_2n n (by omega)
    obtain ⟨m1, v1, u1, k1, k2, k3, k4⟩ := r_fill_cut2 N c1 hp c2 c3 c4 c5 hN vpi hS v_mpip v_mnee hr hw hle hmo hfr hend hc hm ha (b := e) (by omega) (2 ^ n) m 0 v u (by omega) (by omega) h1 (fun U hU => by omega)
    have keep : ∀ a' b' U', (a < a' ∨ (a' = a ∧ b' < e)) → b' < 8 → U' < 2 ^ n → r_ok S n free w met nw bar least most wo co mE v u a' b' U' → r_ok S n free w met nw bar least most wo co mE v1 u1 a' b' U' := by
      intro a' b' U' q1 q0 q2 q3
      unfold r_ok at q3 ⊢
      obtain ⟨e1, e2⟩ := k4 (512 * a' + 64 * b' + U') (fun U hU => by omega)
      rw [e1, e2]
      exact q3
    obtain ⟨m', v2, u2, j1, j2, j3⟩ := r_fill_cut1 hN vpi hS v_mpip v_mnee hr hw hle hmo hfr hend hc hm ha d m1 (e + 1) v1 u1 (by omega) (by omega) (fun a' b' U' q1 q2 q3 q4 => keep a' b' U' (Or.inl q1) q3 q4 (h1 a' b' U' q1 q2 q3 q4)) (by
      intro b U hb hU
      by_cases c : b = e
      · subst c; exact k3 U hU
      · exact keep a b U (Or.inr ⟨rfl, by omega⟩) (by omega) hU (h2 b U (by omega) hU))
    refine ⟨m', v2, u2, ?_, by omega, j3⟩
    rw [f_Model_fill_cut_1, if_neg (by rw [p_8, p_Ile] <;> omega)]
    exact k1.trans j1
theorem r_fill_cut0 (hN : 30000 ≤ N) (vpi : Int32) {S n : Nat} (hS : S ≤ 40) {free : Nat → Bool} {w : Nat → Nat} {met : Nat → Nat → Bool} {wo co : Nat → Int} {nw : Nat → Nat → Int} {bar : Nat → Nat → Bool} {least most : Nat} {mE : Nat → Bool} {v_mwor v_mcen v_mnea : Nat → Int64} {v_mfree v_mend v_mwid v_mbar v_mclr v_mmet : Nat → Int32} (v_mpip v_mnee : Nat → Int32) (hr : r_ref n wo co nw bar v_mwor v_mcen v_mnea v_mbar) (hw : ∀ k, k < n → v_mwid k = p_I (w k) ∧ 1 ≤ w k ∧ w k ≤ 20) (hle : 1 ≤ least ∧ least ≤ 40) (hmo : most ≤ 40) (hfr : ∀ k, k < S → (v_mfree k = 0 ↔ free k = false)) (hend : ∀ U, U < 2 ^ n → (v_mend U = 0 ↔ mE U = false)) (hc : ∀ a, a ≤ S → v_mclr a = p_I (ww_op free (S - a) a)) (hm : ∀ k a, k < n → a < S → (v_mmet (41 * k + a) = 0 ↔ met k a = false)) :
    ∀ a m : Nat, ∀ (v u : Nat → Int64), a ≤ S + 1 → 600 * a < m → (∀ a' b U, a ≤ a' → a' ≤ S → b < 8 → U < 2 ^ n → r_ok S n free w met nw bar least most wo co mE v u a' b U) →
    ∃ v' u', f_Model_fill_cut N 41 8 6 6 6 6 36 36 20992 20992 64 42 246 c1 (p_I S) vpi (p_I n) (p_I least) (p_I most) hp c2 c3 c4 c5 v_mfree v_mpip v_mwid v_mwor v_mcen v_mnee v_mnea v_mbar v_mend m 0 (p_I ((a : Int) - 1)) 0 0 v u v_mclr v_mmet = some (v', u', v_mclr, v_mmet) ∧ (∀ a' b U, a' ≤ S → b < 8 → U < 2 ^ n → r_ok S n free w met nw bar least most wo co mE v' u' a' b U)
  | 0, m + 1, v, u, _, _, h1 => by
    refine ⟨v, u, ?_, fun a' b U q1 q2 q3 => h1 a' b U (by omega) q1 q2 q3⟩
    rw [f_Model_fill_cut_0, if_pos (by rw [p_0, p_Ilt] <;> omega)]
  | a + 1, m + 1, v, u, ha, hmm, h1 => by
    obtain ⟨m1, v1, u1, k1, k2, k3⟩ := r_fill_cut1 N c1 hp c2 c3 c4 c5 hN vpi hS v_mpip v_mnee hr hw hle hmo hfr hend hc hm (a := a) (by omega) 8 m 0 v u (by omega) (by omega) (fun a' b U q1 q2 q3 q4 => h1 a' b U (by omega) q2 q3 q4) (fun b U q => by omega)
    obtain ⟨v2, u2, j1, j2⟩ := r_fill_cut0 hN vpi hS v_mpip v_mnee hr hw hle hmo hfr hend hc hm a m1 v1 u1 (by omega) (by omega) k3
    refine ⟨v2, u2, ?_, j2⟩
    rw [show ((a + 1 : Nat) : Int) - 1 = (a : Int) by omega, f_Model_fill_cut_0, if_neg (by rw [p_0, p_Ilt] <;> omega)]
    exact k1.trans j1
theorem r_fill (hN : 30000 ≤ N) {S n pc : Nat} (pp : Nat → Int) (hS : S ≤ 40) {free : Nat → Bool} {w : Nat → Nat} {need : Nat → Int} {wo co : Nat → Int} {nw : Nat → Nat → Int} {bar : Nat → Nat → Bool} {least most : Nat} {mE : Nat → Bool} {v_mwor v_mcen v_mnea : Nat → Int64} {v_mfree v_mend v_mwid v_mbar v_mpip v_mnee : Nat → Int32} (hr : r_ref n wo co nw bar v_mwor v_mcen v_mnea v_mbar) (hpp : t_pip pc pp v_mpip) (hi : t_nee n w need v_mwid v_mnee) (hle : 1 ≤ least ∧ least ≤ 40) (hmo : most ≤ 40) (hfr : ∀ k, k < S → (v_mfree k = 0 ↔ free k = false)) (hend : ∀ U, U < 2 ^ n → (v_mend U = 0 ↔ mE U = false)) (v u : Nat → Int64) (vc um : Nat → Int32) :
    ∃ v' u' vc' um', f_Model_fill N 41 8 6 6 6 6 36 36 20992 20992 64 42 246 c1 (p_I S) (p_I pc) (p_I n) (p_I least) (p_I most) hp c2 c3 c4 c5 v_mfree v_mpip v_mwid v_mwor v_mcen v_mnee v_mnea v_mbar v u v_mend vc um = some (v', u', vc', um') ∧ (∀ a' b U, a' ≤ S → b < 8 → U < 2 ^ n → r_ok S n free w (fun k q => ww_met pc pp w need k q) nw bar least most wo co mE v' u' a' b U) ∧ (∀ a', a' ≤ S → vc' a' = p_I (ww_op free (S - a') a')) ∧ (∀ k a', k < n → a' < S → (um' (41 * k + a') = 0 ↔ ww_met pc pp w need k a' = false)) := by
  obtain ⟨vc1, um1, k1, k2, k3⟩ := r_look N c1 (p_I least) (p_I most) hp c2 c3 c4 c5 hN S hS n pc pp free w need v_mfree v_mpip v_mwid v_mnee hfr hpp hi vc um
  obtain ⟨v2, u2, j1, j2⟩ := r_fill_cut0 N c1 hp c2 c3 c4 c5 hN (p_I pc) (met := fun k q => ww_met pc pp w need k q) hS v_mpip v_mnee hr (fun k hk => ⟨(hi.2 k hk).1, (hi.2 k hk).2.1, (hi.2 k hk).2.2.1⟩) hle hmo hfr hend k2 k3 (S + 1) N v u (Nat.le_refl _) (by omega) (fun a' b U q1 q2 => by omega)
  refine ⟨v2, u2, vc1, um1, ?_, j2, k2, k3⟩
  unfold f_Model_fill
  rw [k1]
  simp only [Option.bind]
  rw [show ((S + 1 : Nat) : Int) - 1 = (S : Int) by omega] at j1
  exact j1
end
