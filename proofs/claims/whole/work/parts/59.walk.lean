theorem p_sg_sg (b : Nat) : p_sg (p_sg b) = b := by
  unfold p_sg
  by_cases h6 : b = 6
  · subst h6; rfl
  · by_cases h7 : b = 7
    · subst h7; rfl
    · rw [if_neg h6, if_neg h7, if_neg h6, if_neg h7]
theorem ww_path_bf {S n : Nat} {free : Nat → Bool} {w : Nat → Nat} {met : Nat → Nat → Bool} {nw : Nat → Nat → Int} {bar : Nat → Nat → Bool} {least most : Nat} {wo co : Nat → Int} {Bw Bc : Nat → Nat → Nat → Int} {U U' : Nat} {L : List (Int × Nat × Nat)} : ∀ d m a, a + d = S → ww_path S n free w met nw bar least most wo co Bw Bc m a 7 U L U' → ∃ m', m' ≤ m ∧ ww_path S n free w met nw bar least most wo co Bw Bc m' (ww_bf free d a) 7 U L U'
  | 0, m, a, _, h => ⟨m, Nat.le_refl _, h⟩
  | d + 1, m, a, ha, h => by
    unfold ww_bf
    by_cases c : free a = true
    · rw [if_pos c]
      cases m with
      | zero => exact absurd h.1 (by omega)
      | succ m =>
        rcases h.2 with ⟨_, h⟩ | ⟨hf, _⟩
        · obtain ⟨m', h1, h2⟩ := ww_path_bf d m (a + 1) (by omega) h
          exact ⟨m', by omega, h2⟩
        · rw [c] at hf; cases hf
    · rw [if_neg c]
      exact ⟨m, Nat.le_refl _, h⟩
section
variable (N : Nat) (c1 : Int32) (vpi : Int32) (hp : Bool) (c2 : Int32) (c4 c5 : Int64)
theorem r_goes (vst vit vle vmo c3 : Int32) (v u : Nat → Int64) {fm to : Nat} (hfm : fm < 20992) (hto : to < 20992) {fw fc tw tc wo co : Int} (h1 : v fm = p_J fw) (h2 : u fm = p_J fc) (h3 : v to = p_J tw) (h4 : u to = p_J tc) (b1 : 0 ≤ fw ∧ fw ≤ 5000000) (b2 : 0 ≤ fc ∧ fc ≤ 5000000) (b3 : -1 ≤ tw ∧ tw ≤ 5000000) (b4 : 0 ≤ tw → 0 ≤ tc ∧ tc ≤ 5000000) (b5 : 0 ≤ wo ∧ wo ≤ 1000000) (b6 : 0 ≤ co ∧ co ≤ 1000000) :
    ∃ r, f_Model_goesOn N 20992 20992 c1 vst vpi vit vle vmo hp c2 c3 c4 c5 v u (p_I fm) (p_I to) (p_J wo) (p_J co) = some r ∧ (r = true ↔ (0 ≤ tw ∧ tw + wo = fw ∧ tc + co = fc)) := by
  have i1 := p_inx (k := to) (n := 20992) (by omega) (by omega)
  have i2 := p_inx (k := fm) (n := 20992) (by omega) (by omega)
  unfold f_Model_goesOn
  simp only [p_ix to (show to < 2147483648 by omega), p_ix fm (show fm < 2147483648 by omega), i1, i2, if_false, h1, h2, h3, h4, p_Jadd]
  by_cases e0 : tw < 0
  · rw [if_pos (by rw [lg_cmp_lt, p_J0, p_Jlt] <;> omega)]
    exact ⟨false, rfl, by constructor
                          · intro q; cases q
                          · intro q; omega⟩
  · have b4 := b4 (by omega)
    rw [if_neg (by rw [lg_cmp_lt, p_J0, p_Jlt] <;> omega)]
    by_cases e1 : tw + wo = fw
    · rw [if_pos (by rw [lg_cmp_eq, p_Jeq] <;> omega)]
      by_cases e2 : tc + co = fc
      · rw [if_pos (by rw [lg_cmp_eq, p_Jeq] <;> omega)]
        exact ⟨true, rfl, fun _ => ⟨by omega, e1, e2⟩, fun _ => rfl⟩
      · rw [if_neg (by rw [lg_cmp_eq, p_Jeq] <;> omega)]
        exact ⟨false, rfl, by constructor
                              · intro q; cases q
                              · intro q; omega⟩
    · rw [if_neg (by rw [lg_cmp_eq, p_Jeq] <;> omega)]
      exact ⟨false, rfl, by constructor
                            · intro q; cases q
                            · intro q; omega⟩
theorem r_addP (vst vit vle vmo : Int32) {L : List (Int × Nat × Nat)} (hL : L.length ≤ 40) {vi va vs : Nat → Int32} (h : ww_pl L vi va vs) (p : Int × Nat × Nat) :
    ∃ vi' va' vs', f_Model_add N 41 41 41 c1 vst vpi vit vle vmo hp c2 (p_I L.length) c4 c5 vi va vs (p_I p.1) (p_I (p.2.1 : Nat)) (p_I (p.2.2 : Nat)) = some (p_I (L ++ [p]).length, vi', va', vs') ∧ ww_pl (L ++ [p]) vi' va' vs' := by
  refine ⟨_, _, _, ?_, ww_pl_add h p⟩
  unfold f_Model_add
  rw [if_neg (p_in (by omega) (by omega)), if_neg (p_in (by omega) (by omega)), if_neg (p_in (by omega) (by omega)), p_ix _ (by omega), p_up]
  simp
section
variable {S n : Nat} {free : Nat → Bool} {w : Nat → Nat} {met : Nat → Nat → Bool} {nw : Nat → Nat → Int} {bar : Nat → Nat → Bool} {least most : Nat} {wo co : Nat → Int} {mE : Nat → Bool} {v u : Nat → Int64} {v_mwor v_mcen v_mnea : Nat → Int64} {v_mfree v_mwid v_mbar v_mclr v_mmet : Nat → Int32}
def r_env (N S n : Nat) (free : Nat → Bool) (w : Nat → Nat) (met : Nat → Nat → Bool) (nw : Nat → Nat → Int) (bar : Nat → Nat → Bool) (least most : Nat) (wo co : Nat → Int) (mE : Nat → Bool) (v u : Nat → Int64) (v_mwor v_mcen v_mnea : Nat → Int64) (v_mfree v_mwid v_mbar v_mclr v_mmet : Nat → Int32) : Prop :=
  30000 ≤ N ∧ S ≤ 40 ∧ r_ref n wo co nw bar v_mwor v_mcen v_mnea v_mbar ∧ (∀ k, k < n → v_mwid k = p_I (w k) ∧ 1 ≤ w k ∧ w k ≤ 20) ∧ (1 ≤ least ∧ least ≤ 40) ∧ most ≤ 40 ∧ (∀ k, k < S → (v_mfree k = 0 ↔ free k = false)) ∧ (∀ a, a ≤ S → v_mclr a = p_I (ww_op free (S - a) a)) ∧ (∀ k a, k < n → a < S → (v_mmet (41 * k + a) = 0 ↔ met k a = false)) ∧ (∀ a b U, a ≤ S → b < 8 → U < 2 ^ n → r_ok S n free w met nw bar least most wo co mE v u a b U)
def r_Bw (v : Nat → Int64) (a b U : Nat) : Int := (v (512 * a + 64 * p_sg b + U)).toInt
theorem r_B (he : r_env N S n free w met nw bar least most wo co mE v u v_mwor v_mcen v_mnea v_mfree v_mwid v_mbar v_mclr v_mmet) (a b U : Nat) (ha : a ≤ S) (hb : b < 8) (hU : U < 2 ^ n) : ww_B S n free w met nw bar least most wo co mE a b U (r_Bw v a b U) (r_Bw u a b U) := by
  have := he.2.2.2.2.2.2.2.2.2 a (p_sg b) U ha (p_sg_lt hb) hU
  unfold r_ok at this
  rw [p_sg_sg] at this
  exact this
theorem r_Bb (he : r_env N S n free w met nw bar least most wo co mE v u v_mwor v_mcen v_mnea v_mfree v_mwid v_mbar v_mclr v_mmet) {a b U : Nat} (ha : a ≤ S) (hb : b < 8) (hU : U < 2 ^ n) : -1 ≤ r_Bw v a b U ∧ r_Bw v a b U ≤ 4600000 ∧ (0 ≤ r_Bw v a b U → 0 ≤ r_Bw u a b U ∧ r_Bw u a b U ≤ 600000) := by
  obtain ⟨-, r1, r2, r3, r4, r5, r6⟩ := he.2.2.1
  exact ww_B_bd he.2.1 r6 (fun k hk => (he.2.2.2.1 k hk).2.1) r4 r5 (r_B N he a b U ha hb hU)
theorem r_walk1 (he : r_env N S n free w met nw bar least most wo co mE v u v_mwor v_mcen v_mnea v_mfree v_mwid v_mbar v_mclr v_mmet) {a b U : Nat} (ha : a < S) (hf : free a = false) (hb : b < 8) (hU : U < 2 ^ n) (hv : 0 ≤ r_Bw v a b U) {L : List (Int × Nat × Nat)} (hL : L.length ≤ a) {vi va vs : Nat → Int32} (hpl : ww_pl L vi va vs) :
    ∀ d m e : Nat, ∀ x6 : Int32, e + d = n → d < m →
    (∀ k, e ≤ k → k < n → ww_GI S free w met nw bar wo co (r_Bw v) (r_Bw u) a b U k → (∀ j, e ≤ j → j < k → ¬ ww_GI S free w met nw bar wo co (r_Bw v) (r_Bw u) a b U j) → ∃ m' vi' va' vs', f_Model_walk_cut N 41 6 6 6 36 36 20992 20992 42 246 41 41 41 c1 (p_I S) vpi (p_I n) (p_I least) (p_I most) hp c2 c4 c5 v_mfree v_mwid v_mwor v_mcen v_mnea v_mbar v u v_mclr v_mmet m 1 (p_I a) (p_I (p_sg b)) (p_I U) (p_I ((512 * a + 64 * p_sg b + U : Nat) : Int)) (p_I e) x6 (p_I L.length) vi va vs = f_Model_walk_cut N 41 6 6 6 36 36 20992 20992 42 246 41 41 41 c1 (p_I S) vpi (p_I n) (p_I least) (p_I most) hp c2 c4 c5 v_mfree v_mwid v_mwor v_mcen v_mnea v_mbar v u v_mclr v_mmet m' 0 (p_I ((a + w k : Nat) : Int)) (p_I k) (p_I ((U ||| 2 ^ k : Nat) : Int)) 0 0 0 (p_I (L ++ [((k : Int), a, w k)]).length) vi' va' vs' ∧ m ≤ m' + d + 1 ∧ ww_pl (L ++ [((k : Int), a, w k)]) vi' va' vs') ∧
    ((∀ k, e ≤ k → k < n → ¬ ww_GI S free w met nw bar wo co (r_Bw v) (r_Bw u) a b U k) → ∃ m', f_Model_walk_cut N 41 6 6 6 36 36 20992 20992 42 246 41 41 41 c1 (p_I S) vpi (p_I n) (p_I least) (p_I most) hp c2 c4 c5 v_mfree v_mwid v_mwor v_mcen v_mnea v_mbar v u v_mclr v_mmet m 1 (p_I a) (p_I (p_sg b)) (p_I U) (p_I ((512 * a + 64 * p_sg b + U : Nat) : Int)) (p_I e) x6 (p_I L.length) vi va vs = f_Model_walk_cut N 41 6 6 6 36 36 20992 20992 42 246 41 41 41 c1 (p_I S) vpi (p_I n) (p_I least) (p_I most) hp c2 c4 c5 v_mfree v_mwid v_mwor v_mcen v_mnea v_mbar v u v_mclr v_mmet m' 2 (p_I a) (p_I (p_sg b)) (p_I U) (p_I ((512 * a + 64 * p_sg b + U : Nat) : Int)) (p_I n) (p_I least) (p_I L.length) vi va vs ∧ m = m' + d + 1)
  | 0, m + 1, e, x6, h, _ => by
    have hn := he.2.2.1.1
    obtain rfl : e = n := by omega
    refine ⟨fun k h1 h2 => by omega, fun _ => ⟨m, ?_, by omega⟩⟩
    rw [f_Model_walk_cut_1, if_pos (by rw [p_Ile] <;> omega), if_pos (by rw [p_Ile] <;> omega)]
  | d + 1, m + 1, e, x6, h, hm => by
    have hn := he.2.2.1.1
    have hr := he.2.2.1
    have hS := he.2.1
    have hw := he.2.2.2.1
    have h64 := p_2n n (by omega)
    have hop := ww_op_le free (S - a) a
    obtain ⟨-, r1, r2, r3, r4, r5, r6⟩ := he.2.2.1
    obtain ⟨w1, w2, w3⟩ := hw e (by omega)
    obtain ⟨i1, i2⟩ := r_walk1 he ha hf hb hU hv hL hpl d m (e + 1) 0 (by omega) (by omega)
    have hsb := p_sg_lt hb
    rw [f_Model_walk_cut_1, if_neg (by rw [p_Ile] <;> omega), r_may N c1 (p_I S) vpi (p_I n) (p_I least) (p_I most) hp c2 (p_I L.length) c4 c5 hr hw (a := a) (b := p_sg b) (U := U) (k := e) (o := ww_op free (S - a) a) (mt := met e a) (by omega) hsb (by omega) (by omega) (by omega) (he.2.2.2.2.2.2.2.1 a (by omega)) (he.2.2.2.2.2.2.2.2.1 e a (by omega) ha), p_up, p_sg_sg]
    simp only [Option.bind]
    have no : ¬ ww_GI S free w met nw bar wo co (r_Bw v) (r_Bw u) a b U e → (∀ k, e ≤ k → k < n → ww_GI S free w met nw bar wo co (r_Bw v) (r_Bw u) a b U k → (∀ j, e ≤ j → j < k → ¬ ww_GI S free w met nw bar wo co (r_Bw v) (r_Bw u) a b U j) → ∃ m' vi' va' vs', f_Model_walk_cut N 41 6 6 6 36 36 20992 20992 42 246 41 41 41 c1 (p_I S) vpi (p_I n) (p_I least) (p_I most) hp c2 c4 c5 v_mfree v_mwid v_mwor v_mcen v_mnea v_mbar v u v_mclr v_mmet m 1 (p_I a) (p_I (p_sg b)) (p_I U) (p_I ((512 * a + 64 * p_sg b + U : Nat) : Int)) (p_I ((e + 1 : Nat) : Int)) 0 (p_I L.length) vi va vs = f_Model_walk_cut N 41 6 6 6 36 36 20992 20992 42 246 41 41 41 c1 (p_I S) vpi (p_I n) (p_I least) (p_I most) hp c2 c4 c5 v_mfree v_mwid v_mwor v_mcen v_mnea v_mbar v u v_mclr v_mmet m' 0 (p_I ((a + w k : Nat) : Int)) (p_I k) (p_I ((U ||| 2 ^ k : Nat) : Int)) 0 0 0 (p_I (L ++ [((k : Int), a, w k)]).length) vi' va' vs' ∧ m + 1 ≤ m' + (d + 1) + 1 ∧ ww_pl (L ++ [((k : Int), a, w k)]) vi' va' vs') ∧
    ((∀ k, e ≤ k → k < n → ¬ ww_GI S free w met nw bar wo co (r_Bw v) (r_Bw u) a b U k) → ∃ m', f_Model_walk_cut N 41 6 6 6 36 36 20992 20992 42 246 41 41 41 c1 (p_I S) vpi (p_I n) (p_I least) (p_I most) hp c2 c4 c5 v_mfree v_mwid v_mwor v_mcen v_mnea v_mbar v u v_mclr v_mmet m 1 (p_I a) (p_I (p_sg b)) (p_I U) (p_I ((512 * a + 64 * p_sg b + U : Nat) : Int)) (p_I ((e + 1 : Nat) : Int)) 0 (p_I L.length) vi va vs = f_Model_walk_cut N 41 6 6 6 36 36 20992 20992 42 246 41 41 41 c1 (p_I S) vpi (p_I n) (p_I least) (p_I most) hp c2 c4 c5 v_mfree v_mwid v_mwor v_mcen v_mnea v_mbar v u v_mclr v_mmet m' 2 (p_I a) (p_I (p_sg b)) (p_I U) (p_I ((512 * a + 64 * p_sg b + U : Nat) : Int)) (p_I n) (p_I least) (p_I L.length) vi va vs ∧ m + 1 = m' + (d + 1) + 1) := by
      intro c
      refine ⟨fun k h1 h2 h3 h4 => ?_, fun h1 => ?_⟩
      · have : k ≠ e := fun q => c (q ▸ h3)
        obtain ⟨m', vi', va', vs', q1, q2, q3⟩ := i1 k (by omega) h2 h3 (fun j q1 q2 => h4 j (by omega) q2)
        exact ⟨m', vi', va', vs', q1, by omega, q3⟩
      · obtain ⟨m', q1, q2⟩ := i2 (fun k q1 q2 => h1 k (by omega) q2)
        exact ⟨m', q1, by omega⟩
    by_cases c : (!(Nat.testBit U e) && (decide (w e ≤ ww_op free (S - a) a) && (met e a && !(bar e b)))) = true
    · rw [if_pos c]
      rw [Bool.and_eq_true, Bool.and_eq_true, Bool.and_eq_true, Bool.not_eq_true', Bool.not_eq_true', decide_eq_true_eq] at c
      obtain ⟨e1, e2, e3, e4⟩ := c
      have hU' := p_b7 U (by omega) n (by omega) hU e (by omega)
      rw [if_neg (p_in (by omega) (by omega)), p_ix e (by omega), w1]
      unfold f_Model_index
      simp only [Option.bind]
      rw [r_wb N c1 (p_I S) vpi (p_I n) (p_I least) (p_I most) hp c2 (p_I L.length) c4 c5 hr hsb (by omega), p_sg_sg]
      simp only []
      rw [if_neg (p_inx (by omega) (by omega)), (r1 e (by omega)).2, p_bit e (by omega), p_or U (by omega) e (by omega), p_addN, p_mix]
      have n1 := r4 e
      have n2 := r5 e
      have n3 := r6 e b
      have b0 := r_Bb N he (a := a) (b := b) (U := U) (by omega) hb hU
      have b1 := r_Bb N he (a := a + w e) (b := e) (U := U ||| 2 ^ e) (by omega) (by omega) hU'
      have b2 := b0.2.2 hv
      have sge : p_sg e = e := p_sg_6 (by omega)
      obtain ⟨r, q1, q2⟩ := r_goes N c1 vpi hp c2 c4 c5 (p_I S) (p_I n) (p_I least) (p_I most) (p_I L.length) v u (fm := 512 * a + 64 * p_sg b + U) (to := 512 * (a + w e) + 64 * e + (U ||| 2 ^ e)) (by omega) (by omega) (fw := r_Bw v a b U) (fc := r_Bw u a b U) (tw := r_Bw v (a + w e) e (U ||| 2 ^ e)) (tc := r_Bw u (a + w e) e (U ||| 2 ^ e)) (p_Jrd _).symm (p_Jrd _).symm (by unfold r_Bw; rw [sge]; exact (p_Jrd _).symm) (by unfold r_Bw; rw [sge]; exact (p_Jrd _).symm) (by omega) (by omega) (by omega) (fun q => by have := b1.2.2 q; omega) (wo := wo e + nw e b) (co := co e) (by omega) (by omega)
      rw [q1]
      simp only []
      cases hr2 : r with
      | false =>
        rw [if_neg (by decide)]
        refine no (fun hG => ?_)
        have := q2.2 ⟨hG.2.2.2.2.1, hG.2.2.2.2.2⟩
        rw [hr2] at this; cases this
      | true =>
        have hG : ww_GI S free w met nw bar wo co (r_Bw v) (r_Bw u) a b U e := ⟨e1, e2, e3, e4, q2.1 hr2⟩
        rw [if_pos rfl, if_neg (by rw [p_Ile] <;> omega)]
        obtain ⟨vi', va', vs', a1, a2⟩ := r_addP N c1 vpi hp c2 c4 c5 (p_I S) (p_I n) (p_I least) (p_I most) (L := L) (by omega) hpl ((e : Int), a, w e)
        refine ⟨fun k h1 h2 h3 h4 => ?_, fun h1 => absurd hG (h1 e (Nat.le_refl _) (by omega))⟩
        obtain rfl : k = e := by
          by_cases ck : k = e
          · exact ck
          · exact absurd hG (h4 e (Nat.le_refl _) (by omega))
        have i9 := p_inx (k := k) (n := 6) (by omega) (by omega)
        refine ⟨m, vi', va', vs', ?_, by omega, a2⟩
        rw [if_neg i9, a1]
        simp only []
        rw [if_neg i9]
    · rw [if_neg c]
      refine no (fun hG => c ?_)
      rw [hG.1, hG.2.2.1, hG.2.2.2.1, decide_eq_true hG.2.1]; rfl
theorem r_walk2 (he : r_env N S n free w met nw bar least most wo co mE v u v_mwor v_mcen v_mnea v_mfree v_mwid v_mbar v_mclr v_mmet) {a b U : Nat} (ha : a < S) (hf : free a = false) (hb : b < 8) (hU : U < 2 ^ n) (hv : 0 ≤ r_Bw v a b U) {L : List (Int × Nat × Nat)} (hL : L.length ≤ a) {vi va vs : Nat → Int32} (hpl : ww_pl L vi va vs) {f : Nat} (hG : ww_GF S free (r_Bw v) (r_Bw u) a b U f) (x5 : Int32) :
    ∀ d m e : Nat, e + d = f → d < m → least ≤ e → (∀ g, e ≤ g → g < f → ¬ ww_GF S free (r_Bw v) (r_Bw u) a b U g) →
    ∃ m' vi' va' vs', f_Model_walk_cut N 41 6 6 6 36 36 20992 20992 42 246 41 41 41 c1 (p_I S) vpi (p_I n) (p_I least) (p_I most) hp c2 c4 c5 v_mfree v_mwid v_mwor v_mcen v_mnea v_mbar v u v_mclr v_mmet m 2 (p_I a) (p_I (p_sg b)) (p_I U) (p_I ((512 * a + 64 * p_sg b + U : Nat) : Int)) x5 (p_I e) (p_I L.length) vi va vs = f_Model_walk_cut N 41 6 6 6 36 36 20992 20992 42 246 41 41 41 c1 (p_I S) vpi (p_I n) (p_I least) (p_I most) hp c2 c4 c5 v_mfree v_mwid v_mwor v_mcen v_mnea v_mbar v u v_mclr v_mmet m' 0 (p_I ((a + f : Nat) : Int)) (p_I 7) (p_I U) 0 0 0 (p_I (L ++ [(-1, a, f)]).length) vi' va' vs' ∧ m = m' + d + 1 ∧ ww_pl (L ++ [(-1, a, f)]) vi' va' vs'
  | d, m, e, h, hm, hle, hno => by
    obtain ⟨m, rfl⟩ : ∃ m', m = m' + 1 := ⟨m - 1, by omega⟩
    have hn := he.2.2.1.1
    have hS := he.2.1
    have h64 := p_2n n (by omega)
    have hop := ww_op_le free (S - a) a
    have hf3 := hG.1
    have hsb := p_sg_lt hb
    rw [f_Model_walk_cut_2, r_clear N c1 (p_I S) vpi (p_I n) (p_I least) (p_I most) hp c2 (p_I L.length) c4 c5 v_mclr (a := a) (f := e) (o := ww_op free (S - a) a) (by omega) (by omega) (by omega) (he.2.2.2.2.2.2.2.1 a (by omega)), decide_eq_true (by omega)]
    simp only [Option.bind, if_true]
    unfold f_Model_index
    simp only []
    rw [p_addN, show (7 : Int32) = p_I ((7 : Nat) : Int) by decide, p_mix, p_J0]
    have b0 := r_Bb N he (a := a) (b := b) (U := U) (by omega) hb hU
    have b1 := r_Bb N he (a := a + e) (b := 6) (U := U) (by omega) (by omega) hU
    have b2 := b0.2.2 hv
    obtain ⟨r, q1, q2⟩ := r_goes N c1 vpi hp c2 c4 c5 (p_I S) (p_I n) (p_I least) (p_I most) (p_I L.length) v u (fm := 512 * a + 64 * p_sg b + U) (to := 512 * (a + e) + 64 * 7 + U) (by omega) (by omega) (fw := r_Bw v a b U) (fc := r_Bw u a b U) (tw := r_Bw v (a + e) 6 U) (tc := r_Bw u (a + e) 6 U) (p_Jrd _).symm (p_Jrd _).symm (p_Jrd _).symm (p_Jrd _).symm (by omega) (by omega) (by omega) (fun q => by have := b1.2.2 q; omega) (wo := 0) (co := 0) (by omega) (by omega)
    rw [q1]
    simp only []
    have hGe : r = true ↔ ww_GF S free (r_Bw v) (r_Bw u) a b U e := by
      rw [q2]
      constructor
      · intro q; exact ⟨by omega, q.1, by omega, by omega⟩
      · intro q; exact ⟨q.2.1, by have := q.2.2.1; omega, by have := q.2.2.2; omega⟩
    cases d with
    | zero =>
      obtain rfl : e = f := by omega
      rw [hGe.2 hG, if_pos rfl]
      obtain ⟨vi', va', vs', a1, a2⟩ := r_addP N c1 vpi hp c2 c4 c5 (p_I S) (p_I n) (p_I least) (p_I most) (L := L) (by omega) hpl (-1, a, e)
      refine ⟨m, vi', va', vs', ?_, by omega, a2⟩
      rw [p_m1, a1]
      rfl
    | succ d =>
      have hr : r = false := by
        cases hr : r with
        | false => rfl
        | true => exact absurd (hGe.1 hr) (hno e (Nat.le_refl _) (by omega))
      rw [hr, if_neg (by decide), p_up]
      obtain ⟨m', vi', va', vs', k1, k2, k3⟩ := r_walk2 he ha hf hb hU hv hL hpl hG x5 d m (e + 1) (by omega) (by omega) (by omega) (fun g q1 q2 => hno g (by omega) q2)
      exact ⟨m', vi', va', vs', k1, by omega, k3⟩
termination_by d => d
theorem r_walk0 (he : r_env N S n free w met nw bar least most wo co mE v u v_mwor v_mcen v_mnea v_mfree v_mwid v_mbar v_mclr v_mmet) :
    ∀ (m fu a b U : Nat) (L L1 : List (Int × Nat × Nat)) (U' : Nat) (vi va vs : Nat → Int32), ww_path S n free w met nw bar least most wo co (r_Bw v) (r_Bw u) m a b U L1 U' → 100 * m < fu → a ≤ S → b < 8 → U < 2 ^ n → 0 ≤ r_Bw v a b U → L.length ≤ a → ww_pl L vi va vs →
    ∃ vi' va' vs', f_Model_walk_cut N 41 6 6 6 36 36 20992 20992 42 246 41 41 41 c1 (p_I S) vpi (p_I n) (p_I least) (p_I most) hp c2 c4 c5 v_mfree v_mwid v_mwor v_mcen v_mnea v_mbar v u v_mclr v_mmet fu 0 (p_I a) (p_I (p_sg b)) (p_I U) 0 0 0 (p_I L.length) vi va vs = some (p_I U', p_I (L ++ L1).length, vi', va', vs') ∧ ww_pl (L ++ L1) vi' va' vs'
  | 0, fu, a, b, U, L, L1, U', vi, va, vs, hpa, hfu, ha, hb, hU, hv, hL, hpl => by
    obtain ⟨fu, rfl⟩ : ∃ m', fu = m' + 1 := ⟨fu - 1, by omega⟩
    obtain ⟨rfl, rfl, rfl⟩ := hpa
    have hS := he.2.1
    refine ⟨vi, va, vs, ?_, by rw [List.append_nil]; exact hpl⟩
    rw [f_Model_walk_cut_0, if_pos (by rw [p_Ile] <;> omega), List.append_nil]
  | m + 1, fu, a, b, U, L, L1, U', vi, va, vs, hpa, hfu, ha, hb, hU, hv, hL, hpl => by
    obtain ⟨fu, rfl⟩ : ∃ m', fu = m' + 1 := ⟨fu - 1, by omega⟩
    obtain ⟨ha2, hpa⟩ := hpa
    have hS := he.2.1
    have hn := he.2.2.1.1
    have hN := he.1
    have hw := he.2.2.2.1
    have hfr := he.2.2.2.2.2.2.1
    have h64 := p_2n n (by omega)
    have hsb := p_sg_lt hb
    have hop := ww_op_le free (S - a) a
    rw [f_Model_walk_cut_0, if_neg (by rw [p_Ile] <;> omega)]
    unfold f_Model_index
    simp only [Option.bind]
    rw [p_mix, if_neg (p_in (by omega) (by omega)), p_ix a (by omega)]
    rcases hpa with ⟨hf, hpa⟩ | ⟨hf, p, a1, b1, U1, L2, hst, hL2, hpa⟩
    · rw [if_neg (by rw [hfr a ha2, hf]; decide), r_bf N c1 vpi (p_I n) (p_I least) (p_I most) hp c2 (p_I L.length) c4 c5 hN S hS free v_mfree hfr ha]
      simp only []
      obtain ⟨m', q1, q2⟩ := ww_path_bf (S - (a + 1)) m (a + 1) (by omega) hpa
      have hbe : ww_bf free (S - a) a = ww_bf free (S - (a + 1)) (a + 1) := by
        rw [show S - a = (S - (a + 1)) + 1 by omega]
        conv => lhs; unfold ww_bf
        rw [if_pos hf]
      have hbl := ww_bf_le free (S - (a + 1)) (a + 1)
      rw [← hbe] at q2 hbl
      have h1 := r_B N he a b U ha hb hU
      have h2 := r_B N he (ww_bf free (S - a) a) 7 U (by omega) (by omega) hU
      have h3 := (ww_lex_iff (fun x y => ww_bf_C S n free w met nw bar least most wo co mE (S - a) a b U x y (by omega) (Or.inl ⟨by omega, hf⟩)) _ _).1 h1
      have h4 := (ww_lex_uniq h3 h2).1
      rw [show (6 : Int32) = p_I (p_sg 7 : Nat) by decide]
      exact r_walk0 he m' fu (ww_bf free (S - a) a) 7 U L L1 U' vi va vs q2 (by omega) (by omega) (by omega) hU (by omega) (by omega) hpl
    · rw [if_pos (by rw [hfr a ha2]; exact hf)]
      obtain ⟨i1, i2⟩ := r_walk1 N c1 vpi hp c2 c4 c5 he ha2 hf hb hU hv hL hpl n fu 0 0 (by omega) (by omega)
      rcases hst with ⟨k, k1, k2, k3, k4, k5, k6, k7⟩ | ⟨hno, hb6, f, f1, f2, f3, f4, f5, f6, f7, f8⟩
      · obtain ⟨m1, vi1, va1, vs1, j1, j2, j3⟩ := i1 k (Nat.zero_le _) k1 k2 (fun j _ hj => k3 j hj)
        subst k5; subst k6; subst k7
        obtain ⟨w1, w2, w3⟩ := hw b1 k1
        have hwk := k2.2.1
        obtain ⟨vi2, va2, vs2, l1, l2⟩ := r_walk0 he m m1 (a + w b1) b1 (U ||| 2 ^ b1) (L ++ [p]) L2 U' vi1 va1 vs1 hpa (by omega) (by omega) (by omega) (p_b7 U (by omega) n (by omega) hU b1 k1) k2.2.2.2.2.1 (by simp; omega) (by rw [k4]; exact j3)
        refine ⟨vi2, va2, vs2, ?_, by rw [hL2]; simpa using l2⟩
        rw [p_sg_6 (show b1 < 6 by omega), k4] at l1
        rw [show (0 : Int32) = p_I ((0 : Nat) : Int) by decide] at j1 l1 ⊢
        rw [hL2, k4]
        simpa using j1.trans l1
      · obtain ⟨m1, j1, j2⟩ := i2 (fun k _ hk => hno k hk)
        have hf3 := f3.1
        have hl1 := he.2.2.2.2.1
        obtain ⟨m2, vi1, va1, vs1, g1, g2, g3⟩ := r_walk2 N c1 vpi hp c2 c4 c5 he ha2 hf hb hU hv hL hpl f3 (p_I n) (f - least) m1 least (by omega) (by omega) (Nat.le_refl _) f4
        subst f6; subst f7; subst f8
        obtain ⟨vi2, va2, vs2, l1, l2⟩ := r_walk0 he m m2 (a + f) 6 U1 (L ++ [p]) L2 U' vi1 va1 vs1 hpa (by omega) (by omega) (by omega) hU f3.2.1 (by simp; omega) (by rw [f5]; exact g3)
        refine ⟨vi2, va2, vs2, ?_, by rw [hL2]; simpa using l2⟩
        rw [show p_sg 6 = 7 from rfl, f5] at l1
        rw [show (0 : Int32) = p_I ((0 : Nat) : Int) by decide] at j1 g1 l1 ⊢
        rw [hL2, f5]
        simpa using j1.trans (g1.trans l1)
termination_by m => m
end
end
