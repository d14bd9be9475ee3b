theorem p_shr : ∀ u : Nat, u < 64 → ∀ k : Nat, k < 6 → (((p_I u >>> (p_I k &&& 31)) &&& 1) = 0 ↔ Nat.testBit u k = false) := by decide +kernel
theorem p_41 : (41 : Int32) = p_I 41 := by decide
theorem p_mix (a b c : Nat) : 512 * p_I a + 64 * p_I b + p_I c = p_I ((512 * a + 64 * b + c : Nat) : Int) := by
  rw [p_512, p_64, p_Imul, p_Imul, p_Iadd, p_Iadd]; congr 1
theorem p_m41 (a b : Nat) : 41 * p_I a + p_I b = p_I ((41 * a + b : Nat) : Int) := by
  rw [p_41, p_Imul, p_Iadd]; congr 1
theorem p_m6 (a b : Nat) : 6 * p_I a + p_I b = p_I ((6 * a + b : Nat) : Int) := by
  rw [p_6, p_Imul, p_Iadd]; congr 1
section
variable (N : Nat) (c1 : Int32) (vst vpi vit vle vmo : Int32) (hp : Bool) (c2 c3 : Int32) (c4 c5 : Int64)
theorem r_need_cut (n pc : Nat) (pp : Nat → Int) (w : Nat → Nat) (need : Nat → Int) (v_mpip v_mwid v_mnee : Nat → Int32) (hpp : t_pip pc pp v_mpip) (hi : t_nee n w need v_mwid v_mnee) {bg : Int} (hb : -200 ≤ bg ∧ bg ≤ 200) {k : Nat} (hk : k < n) :
    ∀ d m e : Nat, ∀ acc : Bool, e + d = pc → d < m → (acc = true ∨ 0 ≤ need k) →
    f_Model_isNeeded_cut N 8 6 6 c1 vst (p_I pc) vit vle vmo hp c2 c3 c4 c5 v_mpip v_mwid v_mnee m 0 (p_I k) (p_I bg) acc (p_I e) = some (acc || ww_any (ww_pq pp (bg - need k) (bg + w k - 1 + need k)) d e)
  | 0, m + 1, e, acc, h, _, _ => by
    have := hpp.1
    rw [f_Model_isNeeded_cut_0, if_pos (by rw [p_Ile] <;> omega)]
    simp [ww_any]
  | d + 1, m + 1, e, acc, h, hm, ha => by
    have hpc := hpp.1
    obtain ⟨h1, h2, h3⟩ := hpp.2 e (by omega)
    have hn := hi.1
    obtain ⟨w1, w2, w3, w4, w5, w6⟩ := hi.2 k hk
    have i1 := p_inx (k := e) (n := 8) (by omega) (by omega)
    have i2 := p_inx (k := k) (n := 6) (by omega) (by omega)
    have ih : ∀ acc : Bool, (acc = true ∨ 0 ≤ need k) → f_Model_isNeeded_cut N 8 6 6 c1 vst (p_I pc) vit vle vmo hp c2 c3 c4 c5 v_mpip v_mwid v_mnee m 0 (p_I k) (p_I bg) acc (p_I e + 1) = some (acc || ww_any (ww_pq pp (bg - need k) (bg + w k - 1 + need k)) d (e + 1)) := by
      intro acc ha
      rw [p_up]
      exact r_need_cut n pc pp w need v_mpip v_mwid v_mnee hpp hi hb hk d m (e + 1) acc (by omega) (by omega) ha
    rw [f_Model_isNeeded_cut_0, if_neg (by rw [p_Ile] <;> omega)]
    simp only [p_ix e (show e < 2147483648 by omega), p_ix k (show k < 2147483648 by omega), i1, i2, if_false, h1, w1, w4]
    have hany : ww_any (ww_pq pp (bg - need k) (bg + w k - 1 + need k)) (d + 1) e = (ww_pq pp (bg - need k) (bg + w k - 1 + need k) e || ww_any (ww_pq pp (bg - need k) (bg + w k - 1 + need k)) d (e + 1)) := rfl
    rw [hany]
    cases acc with
    | true =>
      simp only [if_true, ih true (Or.inl rfl)]
      split
      · split <;> rfl
      · rfl
    | false =>
      have hn0 : 0 ≤ need k := by
        rcases ha with ha | ha
        · cases ha
        · exact ha
      simp only [ih true (Or.inl rfl), ih false (Or.inr hn0), Bool.true_or, Bool.false_or]
      rw [if_neg (show ¬ (false = true) by decide), if_neg (show ¬ (false = true) by decide), if_neg (show ¬ (false = true) by decide)]
      simp only [p_Iadd, p_Isub, p_0, p_1]
      have hT : bg - need k ≤ pp e → pp e ≤ bg + w k - 1 + need k → ww_pq pp (bg - need k) (bg + w k - 1 + need k) e = true := by
        intro q1 q2
        unfold ww_pq; rw [decide_eq_true q1, decide_eq_true q2]; rfl
      have hF : ¬ (bg - need k ≤ pp e ∧ pp e ≤ bg + w k - 1 + need k) → ww_pq pp (bg - need k) (bg + w k - 1 + need k) e = false := by
        intro q
        unfold ww_pq
        by_cases q1 : bg - need k ≤ pp e
        · rw [decide_eq_false (p := pp e ≤ _) (fun q2 => q ⟨q1, q2⟩), Bool.and_false]
        · rw [decide_eq_false q1, Bool.false_and]
      by_cases e1 : bg ≤ pp e
      · rw [if_pos (by rw [p_Ile] <;> omega)]
        by_cases e2 : pp e < bg + w k
        · rw [if_pos (by rw [p_Ilt] <;> omega), if_neg (by rw [p_Ilt] <;> omega), hT (by omega) (by omega), Bool.true_or]
        · rw [if_neg (by rw [p_Ilt] <;> omega)]
          by_cases e3 : need k < pp e - bg - w k + 1
          · rw [if_pos (by rw [p_Ilt] <;> omega), hF (by omega), Bool.false_or]
          · rw [if_neg (by rw [p_Ilt] <;> omega), hT (by omega) (by omega), Bool.true_or]
      · rw [if_neg (by rw [p_Ile] <;> omega)]
        by_cases e3 : need k < bg - pp e
        · rw [if_pos (by rw [p_Ilt] <;> omega), hF (by omega), Bool.false_or]
        · rw [if_neg (by rw [p_Ilt] <;> omega), hT (by omega) (by omega), Bool.true_or]
theorem r_need (hN : 30000 ≤ N) (n pc : Nat) (pp : Nat → Int) (w : Nat → Nat) (need : Nat → Int) (v_mpip v_mwid v_mnee : Nat → Int32) (hpp : t_pip pc pp v_mpip) (hi : t_nee n w need v_mwid v_mnee) {bg : Int} (hb : -200 ≤ bg ∧ bg ≤ 200) {k : Nat} (hk : k < n) :
    f_Model_isNeeded N 8 6 6 c1 vst (p_I pc) vit vle vmo hp c2 c3 c4 c5 v_mpip v_mwid v_mnee (p_I k) (p_I bg) = some (ww_met pc pp w need k bg) := by
  have hpc := hpp.1
  have hn := hi.1
  obtain ⟨w1, w2, w3, w4, w5, w6⟩ := hi.2 k hk
  unfold f_Model_isNeeded
  rw [if_neg (p_in (by omega) (by omega)), p_ix k (by omega), w4]
  unfold ww_met
  by_cases c : need k = -1
  · rw [if_pos (by rw [c]; decide), p_0, decide_eq_true c]
    exact r_need_cut N c1 vst vit vle vmo hp c2 c3 c4 c5 n pc pp w need v_mpip v_mwid v_mnee hpp hi hb hk pc N 0 true (by omega) (by omega) (Or.inl rfl)
  · rw [if_neg (by rw [p_m1, p_Ieq] <;> omega), p_0, decide_eq_false c]
    exact r_need_cut N c1 vst vit vle vmo hp c2 c3 c4 c5 n pc pp w need v_mpip v_mwid v_mnee hpp hi hb hk pc N 0 false (by omega) (by omega) (Or.inr (by omega))
end
def ww_bf (free : Nat → Bool) : Nat → Nat → Nat
  | 0, a => a
  | d + 1, a => if free a = true then ww_bf free d (a + 1) else a
theorem ww_bf_le (free : Nat → Bool) : ∀ d a, a ≤ ww_bf free d a ∧ ww_bf free d a ≤ a + d
  | 0, a => ⟨Nat.le_refl _, Nat.le_refl _⟩
  | d + 1, a => by
    unfold ww_bf
    have := ww_bf_le free d (a + 1)
    split <;> omega
theorem ww_bf_C (S n : Nat) (free : Nat → Bool) (w : Nat → Nat) (met : Nat → Nat → Bool) (nw : Nat → Nat → Int) (bar : Nat → Nat → Bool) (least most : Nat) (wo co : Nat → Int) (mE : Nat → Bool) : ∀ d a b U x y, a + d = S → ((0 < d ∧ free a = true) ∨ b = 7) → (ww_C S n free w met nw bar least most wo co mE a b U x y ↔ ww_C S n free w met nw bar least most wo co mE (ww_bf free d a) 7 U x y)
  | 0, a, b, U, x, y, h, hb => by
    obtain rfl : b = 7 := by
      rcases hb with hb | hb
      · omega
      · exact hb
    rfl
  | d + 1, a, b, U, x, y, h, hb => by
    by_cases c : free a = true
    · rw [ww_C_free S n free w met nw bar least most wo co mE (by omega) c b U x y]
      rw [ww_bf_C S n free w met nw bar least most wo co mE d (a + 1) 7 U x y (by omega) (Or.inr rfl)]
      unfold ww_bf
      rw [if_pos c]
      cases d <;> rfl
    · obtain rfl : b = 7 := by
        rcases hb with hb | hb
        · exact absurd hb.2 c
        · exact hb
      unfold ww_bf
      rw [if_neg c]
section
variable (N : Nat) (c1 : Int32) (vst vpi vit vle vmo : Int32) (hp : Bool) (c2 c3 : Int32) (c4 c5 : Int64)
theorem r_bf_cut (S : Nat) (hS : S ≤ 40) (free : Nat → Bool) (v_mfree : Nat → Int32) (hf : ∀ k, k < S → (v_mfree k = 0 ↔ free k = false)) (x1 : Int32) :
    ∀ d m e : Nat, e + d = S → d < m → f_Model_behindFree_cut N 41 c1 (p_I S) vpi vit vle vmo hp c2 c3 c4 c5 v_mfree m 0 x1 (p_I e) = some (p_I (ww_bf free d e))
  | 0, m + 1, e, h, _ => by
    rw [f_Model_behindFree_cut_0, if_pos (by rw [p_Ile] <;> omega)]
    rfl
  | d + 1, m + 1, e, h, hm => by
    rw [f_Model_behindFree_cut_0, if_neg (by rw [p_Ile] <;> omega), if_neg (p_in (by omega) (by omega)), p_ix e (by omega), p_up, r_bf_cut S hS free v_mfree hf x1 d m (e + 1) (by omega) (by omega)]
    unfold ww_bf
    by_cases c : free e = true
    · rw [if_neg (by rw [hf e (by omega), c]; decide), if_pos c]
      cases d <;> rfl
    · rw [if_pos (by rw [hf e (by omega)]; simpa using c), if_neg c]
theorem r_bf (hN : 30000 ≤ N) (S : Nat) (hS : S ≤ 40) (free : Nat → Bool) (v_mfree : Nat → Int32) (hf : ∀ k, k < S → (v_mfree k = 0 ↔ free k = false)) {a : Nat} (ha : a ≤ S) :
    f_Model_behindFree N 41 c1 (p_I S) vpi vit vle vmo hp c2 c3 c4 c5 v_mfree (p_I a) = some (p_I (ww_bf free (S - a) a)) := by
  unfold f_Model_behindFree
  exact r_bf_cut N c1 vpi vit vle vmo hp c2 c3 c4 c5 S hS free v_mfree hf (p_I a) (S - a) N a (by omega) (by omega)
theorem r_clear (v_mclr : Nat → Int32) {a f o : Nat} (ha : a ≤ 40) (ho : o ≤ 40) (hf : f ≤ 1000) (h : v_mclr a = p_I o) :
    f_Model_isClear N 42 c1 vst vpi vit vle vmo hp c2 c3 c4 c5 v_mclr (p_I a) (p_I f) = some (decide (f ≤ o)) := by
  unfold f_Model_isClear
  rw [if_neg (p_in (by omega) (by omega)), p_ix a (by omega), h]
  by_cases c : o < f
  · rw [if_pos (by rw [p_Ilt] <;> omega), decide_eq_false (by omega)]
  · rw [if_neg (by rw [p_Ilt] <;> omega), decide_eq_true (by omega)]
theorem r_bI (b : Bool) : (vp_nar .boolean (bI b) = 0 ↔ b = false) := by cases b <;> decide
theorem r_look_cut1 (hN : 30000 ≤ N) (n pc : Nat) (pp : Nat → Int) (w : Nat → Nat) (need : Nat → Int) (v_mfree v_mpip v_mwid v_mnee : Nat → Int32) (hpp : t_pip pc pp v_mpip) (hi : t_nee n w need v_mwid v_mnee) (vc : Nat → Int32) {a : Nat} (ha : a < 41) :
    ∀ d m e : Nat, ∀ um : Nat → Int32, e + d = n → d < m → ∃ um' m', f_Model_look_cut N 41 8 6 6 42 246 c1 vst (p_I pc) (p_I n) vle vmo hp c2 c3 c4 c5 v_mfree v_mpip v_mwid v_mnee m 1 (p_I a) (p_I e) vc um = f_Model_look_cut N 41 8 6 6 42 246 c1 vst (p_I pc) (p_I n) vle vmo hp c2 c3 c4 c5 v_mfree v_mpip v_mwid v_mnee m' 0 (p_I ((a : Int) - 1)) 0 vc um' ∧ m = m' + d + 1 ∧ (∀ k, e ≤ k → k < n → (um' (41 * k + a) = 0 ↔ ww_met pc pp w need k a = false)) ∧ (∀ j, (∀ k, e ≤ k → k < n → j ≠ 41 * k + a) → um' j = um j)
  | 0, m + 1, e, um, h, _ => by
    have hn := hi.1
    refine ⟨um, m, ?_, by omega, fun k h1 h2 => by omega, fun j _ => rfl⟩
    rw [f_Model_look_cut_1, if_pos (by rw [p_Ile] <;> omega), p_m1, p_Iadd]
    rfl
  | d + 1, m + 1, e, um, h, hm => by
    have hn := hi.1
    obtain ⟨um', m', h1, h2, h3, h4⟩ := r_look_cut1 hN n pc pp w need v_mfree v_mpip v_mwid v_mnee hpp hi vc ha d m (e + 1) (upd um (41 * e + a) (vp_nar .boolean (bI (ww_met pc pp w need e a)))) (by omega) (by omega)
    refine ⟨um', m', ?_, by omega, ?_, ?_⟩
    · rw [f_Model_look_cut_1, if_neg (by rw [p_Ile] <;> omega), r_need N c1 vst (p_I n) vle vmo hp c2 c3 c4 c5 hN n pc pp w need v_mpip v_mwid v_mnee hpp hi (by omega) (by omega)]
      simp only [Option.bind]
      rw [p_m41, if_neg (p_in (by omega) (by omega)), p_ix _ (by omega), p_up]
      exact h1
    · intro k q1 q2
      by_cases c : k = e
      · subst c
        rw [h4 _ (fun k' r1 r2 => by omega), p_u, if_pos rfl]
        exact r_bI _
      · exact h3 k (by omega) q2
    · intro j hj
      rw [h4 j (fun k r1 r2 => hj k (by omega) r2), p_u, if_neg (hj e (Nat.le_refl _) (by omega))]
theorem r_look_cut0 (hN : 30000 ≤ N) (S : Nat) (hS : S ≤ 40) (n pc : Nat) (pp : Nat → Int) (free : Nat → Bool) (w : Nat → Nat) (need : Nat → Int) (v_mfree v_mpip v_mwid v_mnee : Nat → Int32) (hf : ∀ k, k < S → (v_mfree k = 0 ↔ free k = false)) (hpp : t_pip pc pp v_mpip) (hi : t_nee n w need v_mwid v_mnee) :
    ∀ a m : Nat, ∀ vc um : Nat → Int32, a ≤ S → 10 * a < m → (∀ a', a ≤ a' → a' ≤ S → vc a' = p_I (ww_op free (S - a') a')) → (∀ k a', k < n → a ≤ a' → a' < S → (um (41 * k + a') = 0 ↔ ww_met pc pp w need k a' = false)) →
    ∃ vc' um', f_Model_look_cut N 41 8 6 6 42 246 c1 vst (p_I pc) (p_I n) vle vmo hp c2 c3 c4 c5 v_mfree v_mpip v_mwid v_mnee m 0 (p_I ((a : Int) - 1)) 0 vc um = some (vc', um') ∧ (∀ a', a' ≤ S → vc' a' = p_I (ww_op free (S - a') a')) ∧ (∀ k a', k < n → a' < S → (um' (41 * k + a') = 0 ↔ ww_met pc pp w need k a' = false))
  | 0, m + 1, vc, um, _, _, h1, h2 => by
    refine ⟨vc, um, ?_, fun a' h => h1 a' (by omega) h, fun k a' hk h => h2 k a' hk (by omega) h⟩
    rw [f_Model_look_cut_0, if_pos (by rw [p_0, p_Ilt] <;> omega)]
  | a + 1, m + 1, vc, um, ha, hm, h1, h2 => by
    have hn := hi.1
    have hx : ((a + 1 : Nat) : Int) - 1 = (a : Int) := by omega
    have hop : ww_op free (S - a) a = if free a = true then 0 else ww_op free (S - (a + 1)) (a + 1) + 1 := by
      rw [show S - a = (S - (a + 1)) + 1 by omega]; rfl
    rw [hx, f_Model_look_cut_0, if_neg (by rw [p_0, p_Ilt] <;> omega), if_neg (p_in (by omega) (by omega)), p_ix a (by omega), p_up, p_ix (a + 1) (by omega)]
    have key : ∀ z : Int32, z = p_I (ww_op free (S - a) a) → ∃ vc' um', f_Model_look_cut N 41 8 6 6 42 246 c1 vst (p_I pc) (p_I n) vle vmo hp c2 c3 c4 c5 v_mfree v_mpip v_mwid v_mnee m 1 (p_I a) 0 (upd vc a z) um = some (vc', um') ∧ (∀ a', a' ≤ S → vc' a' = p_I (ww_op free (S - a') a')) ∧ (∀ k a', k < n → a' < S → (um' (41 * k + a') = 0 ↔ ww_met pc pp w need k a' = false)) := by
      intro z hz
      obtain ⟨vm1, m1, k1, k2, k3, k4⟩ := r_look_cut1 N c1 vst vle vmo hp c2 c3 c4 c5 hN n pc pp w need v_mfree v_mpip v_mwid v_mnee hpp hi (upd vc a z) (a := a) (by omega) n m 0 um (by omega) (by omega)
      obtain ⟨vc2, vm2, j1, j2, j3⟩ := r_look_cut0 hN S hS n pc pp free w need v_mfree v_mpip v_mwid v_mnee hf hpp hi a m1 (upd vc a z) vm1 (by omega) (by omega) (by
        intro a' q1 q2
        rw [p_u]
        by_cases c : a' = a
        · rw [if_pos c, hz, c]
        · rw [if_neg c]; exact h1 a' (by omega) q2) (by
        intro k a' q0 q1 q2
        by_cases c : a' = a
        · subst c; exact k3 k (by omega) q0
        · rw [k4 _ (fun k' r1 r2 => by omega)]; exact h2 k a' q0 (by omega) q2)
      exact ⟨vc2, vm2, k1.trans j1, j2, j3⟩
    have i1 := p_inx (k := a) (n := 42) (by omega) (by omega)
    have i2 := p_inx (k := a + 1) (n := 42) (by omega) (by omega)
    by_cases c : free a = true
    · rw [if_neg (by rw [hf a (by omega), c]; decide), if_neg i1]
      refine key 0 ?_
      rw [hop, if_pos c]; rfl
    · rw [if_pos (by rw [hf a (by omega)]; simpa using c), if_neg i2, if_neg i1]
      refine key _ ?_
      rw [hop, if_neg c, h1 (a + 1) (by omega) (by omega), p_up]
theorem r_look (hN : 30000 ≤ N) (S : Nat) (hS : S ≤ 40) (n pc : Nat) (pp : Nat → Int) (free : Nat → Bool) (w : Nat → Nat) (need : Nat → Int) (v_mfree v_mpip v_mwid v_mnee : Nat → Int32) (hf : ∀ k, k < S → (v_mfree k = 0 ↔ free k = false)) (hpp : t_pip pc pp v_mpip) (hi : t_nee n w need v_mwid v_mnee) (vc um : Nat → Int32) :
    ∃ vc' um', f_Model_look N 41 8 6 6 42 246 c1 (p_I S) (p_I pc) (p_I n) vle vmo hp c2 c3 c4 c5 v_mfree v_mpip v_mwid v_mnee vc um = some (vc', um') ∧ (∀ a', a' ≤ S → vc' a' = p_I (ww_op free (S - a') a')) ∧ (∀ k a', k < n → a' < S → (um' (41 * k + a') = 0 ↔ ww_met pc pp w need k a' = false)) := by
  obtain ⟨vc2, vm2, j1, j2, j3⟩ := r_look_cut0 N c1 (p_I S) vle vmo hp c2 c3 c4 c5 hN S hS n pc pp free w need v_mfree v_mpip v_mwid v_mnee hf hpp hi S N (upd vc S 0) um (Nat.le_refl _) (by omega) (by
    intro a' q1 q2
    obtain rfl : a' = S := by omega
    rw [p_u, if_pos rfl, Nat.sub_self]; rfl) (fun k a' q0 q1 q2 => by omega)
  refine ⟨vc2, vm2, ?_, j2, j3⟩
  unfold f_Model_look
  rw [if_neg (p_in (by omega) (by omega)), p_ix S (by omega), p_1, p_Isub]
  exact j1
end
