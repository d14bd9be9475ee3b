theorem r_n0 : ¬ (vp_nar .boolean 1 = 0) := by decide
theorem r_n1 : vp_nar .boolean 0 = 0 := by decide
section
variable (N : Nat) (c1 : Int32) (S pc least most : Nat) (hp : Bool) (c3 : Int32) (c4 c5 : Int64) (v_mfree v_mpip v_mwid v_mnee v_mbar : Nat → Int32) (v_mwor v_mcen v_mnea : Nat → Int64) (v u : Nat → Int64) (vc um vi va vs : Nat → Int32)
theorem r_end1 {n M : Nat} (hn : n ≤ 6) {v_mmus : Nat → Int32} (hmus : ∀ k, k < n → (v_mmus k = 0 ↔ Nat.testBit M k = false)) (td : List Nat) (v_tol : Nat → Int32) (ul : Int) {F : Nat} (hF : F < 64) :
    ∀ d m e : Nat, ∀ (vE : Nat → Int32) (q : Bool), e + d = n → d < m → (vE F = 0 ↔ q = false) → ∃ m' vE', f_Model_find_cut N 41 8 6 6 6 6 6 36 36 20992 20992 64 42 246 16 41 41 41 c1 (p_I S) (p_I pc) (p_I n) (p_I least) (p_I most) hp v_mfree v_mpip v_mwid v_mwor v_mcen v_mnee v_mmus v_mnea v_mbar m 1 (p_I ul) (p_I F) (p_I e) (p_I td.length) c3 c4 c5 v u vE vc um v_tol vi va vs = f_Model_find_cut N 41 8 6 6 6 6 6 36 36 20992 20992 64 42 246 16 41 41 41 c1 (p_I S) (p_I pc) (p_I n) (p_I least) (p_I most) hp v_mfree v_mpip v_mwid v_mwor v_mcen v_mnee v_mmus v_mnea v_mbar m' 2 (p_I ul) (p_I F) 0 (p_I td.length) c3 c4 c5 v u vE' vc um v_tol vi va vs ∧ m = m' + d + 1 ∧ (vE' F = 0 ↔ (q && !(ww_any (fun k => Nat.testBit M k && !(Nat.testBit F k)) d e)) = false) ∧ ∀ j, j ≠ F → vE' j = vE j
  | 0, m + 1, e, vE, q, h, _, hq => by
    refine ⟨m, vE, ?_, by omega, by simpa [ww_any] using hq, fun _ _ => rfl⟩
    rw [f_Model_find_cut_1, if_pos (by rw [p_Ile] <;> omega)]
  | d + 1, m + 1, e, vE, q, h, hm, hq => by
    have i1 := p_inx (k := F) (n := 64) (by omega) (by omega)
    have i2 := p_inx (k := e) (n := 6) (by omega) (by omega)
    have hany : ww_any (fun k => Nat.testBit M k && !(Nat.testBit F k)) (d + 1) e = ((Nat.testBit M e && !(Nat.testBit F e)) || ww_any (fun k => Nat.testBit M k && !(Nat.testBit F k)) d (e + 1)) := rfl
    have go : ∀ (x : Int32) (q' : Bool), (x = 0 ↔ q' = false) → (q' = (q && !(Nat.testBit M e && !(Nat.testBit F e)))) → ∃ m' vE', f_Model_find_cut N 41 8 6 6 6 6 6 36 36 20992 20992 64 42 246 16 41 41 41 c1 (p_I S) (p_I pc) (p_I n) (p_I least) (p_I most) hp v_mfree v_mpip v_mwid v_mwor v_mcen v_mnee v_mmus v_mnea v_mbar m 1 (p_I ul) (p_I F) (p_I e + 1) (p_I td.length) c3 c4 c5 v u (upd vE F x) vc um v_tol vi va vs = f_Model_find_cut N 41 8 6 6 6 6 6 36 36 20992 20992 64 42 246 16 41 41 41 c1 (p_I S) (p_I pc) (p_I n) (p_I least) (p_I most) hp v_mfree v_mpip v_mwid v_mwor v_mcen v_mnee v_mmus v_mnea v_mbar m' 2 (p_I ul) (p_I F) 0 (p_I td.length) c3 c4 c5 v u vE' vc um v_tol vi va vs ∧ m + 1 = m' + (d + 1) + 1 ∧ (vE' F = 0 ↔ (q && !(ww_any (fun k => Nat.testBit M k && !(Nat.testBit F k)) (d + 1) e)) = false) ∧ ∀ j, j ≠ F → vE' j = vE j := by
      intro x q' hx hq'
      rw [p_up]
      obtain ⟨m', vE', k1, k2, k3, k4⟩ := r_end1 hn hmus td v_tol ul hF d m (e + 1) (upd vE F x) q' (by omega) (by omega) (by rw [p_u, if_pos rfl]; exact hx)
      refine ⟨m', vE', k1, by omega, ?_, fun j hj => by rw [k4 j hj, p_u, if_neg hj]⟩
      rw [k3, hany, hq', Bool.not_or, ← Bool.and_assoc]
    rw [f_Model_find_cut_1, if_neg (by rw [p_Ile] <;> omega)]
    simp only [p_ix F (show F < 2147483648 by omega), p_ix e (show e < 2147483648 by omega), i1, i2, if_false, p_shb F hF e (by omega)]
    by_cases c0 : vE F = 0
    · rw [if_pos c0]
      exact go _ false (by rw [r_n1]; simp) (by rw [hq.1 c0]; rfl)
    · rw [if_neg c0]
      have hqt : q = true := by
        cases hqq : q with
        | true => rfl
        | false => exact absurd (hq.2 hqq) c0
      cases hM : Nat.testBit M e with
      | false =>
        rw [if_pos ((hmus e (by omega)).2 hM)]
        exact go _ true (by simp [r_n0]) (by rw [hqt, hM]; rfl)
      | true =>
        rw [if_neg (fun z => by rw [(hmus e (by omega)).1 z] at hM; cases hM)]
        cases hFe : Nat.testBit F e with
        | true =>
          rw [if_pos (by decide)]
          exact go _ true (by simp [r_n0]) (by rw [hqt, hM, hFe]; rfl)
        | false =>
          rw [if_neg (by decide)]
          exact go _ false (by rw [r_n1]; simp) (by rw [hqt, hM, hFe]; rfl)
theorem r_end2 (hN : 30000 ≤ N) {n : Nat} (v_mmus : Nat → Int32) {v_tol : Nat → Int32} {ul : Int} (hul : 0 ≤ ul ∧ ul ≤ 6) {F : Nat} (hF : F < 64) (td : List Nat) (htl : td.length ≤ 16) :
    ∀ (R : List Nat) (m e : Nat), ∀ (vE : Nat → Int32) (q : Bool), (∀ t, t ∈ R → t < 64) → ww_en R v_tol e → e + R.length = td.length → R.length < m → (vE F = 0 ↔ q = false) → ∃ m' vE', f_Model_find_cut N 41 8 6 6 6 6 6 36 36 20992 20992 64 42 246 16 41 41 41 c1 (p_I S) (p_I pc) (p_I n) (p_I least) (p_I most) hp v_mfree v_mpip v_mwid v_mwor v_mcen v_mnee v_mmus v_mnea v_mbar m 2 (p_I ul) (p_I F) (p_I e) (p_I td.length) c3 c4 c5 v u vE vc um v_tol vi va vs = f_Model_find_cut N 41 8 6 6 6 6 6 36 36 20992 20992 64 42 246 16 41 41 41 c1 (p_I S) (p_I pc) (p_I n) (p_I least) (p_I most) hp v_mfree v_mpip v_mwid v_mwor v_mcen v_mnee v_mmus v_mnea v_mbar m' 0 (p_I ul) (p_I ((F + 1 : Nat) : Int)) 0 (p_I td.length) c3 c4 c5 v u vE' vc um v_tol vi va vs ∧ m = m' + R.length + 1 ∧ (vE' F = 0 ↔ (q && ww_un ul R F) = false) ∧ ∀ j, j ≠ F → vE' j = vE j
  | [], m + 1, e, vE, q, _, _, h, _, hq => by
    have : td.length = e := by simpa using h.symm
    refine ⟨m, vE, ?_, by simp, by simpa [ww_un] using hq, fun _ _ => rfl⟩
    rw [f_Model_find_cut_2, if_pos (by rw [p_Ile] <;> omega), p_up]
  | t :: R, m + 1, e, vE, q, ht, hen, h, hm, hq => by
    have hlen : (t :: R).length = R.length + 1 := rfl
    rw [hlen] at hm h
    have h1 : v_tol e = p_I t := hen 0 t rfl
    have ht1 := ht t (List.mem_cons_self)
    have hx := p_xor F hF t ht1
    have hpc := p_pcle (F ^^^ t)
    have i1 := p_inx (k := F) (n := 64) (by omega) (by omega)
    have i2 := p_inx (k := e) (n := 16) (by omega) (by omega)
    have e1 : ww_un ul (t :: R) F = (decide (ul ≤ (ww_pc (F ^^^ t) : Int)) && ww_un ul R F) := rfl
    have go : ∀ (x : Int32) (q' : Bool), (x = 0 ↔ q' = false) → (q' = (q && decide (ul ≤ (ww_pc (F ^^^ t) : Int)))) → ∃ m' vE', f_Model_find_cut N 41 8 6 6 6 6 6 36 36 20992 20992 64 42 246 16 41 41 41 c1 (p_I S) (p_I pc) (p_I n) (p_I least) (p_I most) hp v_mfree v_mpip v_mwid v_mwor v_mcen v_mnee v_mmus v_mnea v_mbar m 2 (p_I ul) (p_I F) (p_I e + 1) (p_I td.length) c3 c4 c5 v u (upd vE F x) vc um v_tol vi va vs = f_Model_find_cut N 41 8 6 6 6 6 6 36 36 20992 20992 64 42 246 16 41 41 41 c1 (p_I S) (p_I pc) (p_I n) (p_I least) (p_I most) hp v_mfree v_mpip v_mwid v_mwor v_mcen v_mnee v_mmus v_mnea v_mbar m' 0 (p_I ul) (p_I ((F + 1 : Nat) : Int)) 0 (p_I td.length) c3 c4 c5 v u vE' vc um v_tol vi va vs ∧ m + 1 = m' + (t :: R).length + 1 ∧ (vE' F = 0 ↔ (q && ww_un ul (t :: R) F) = false) ∧ ∀ j, j ≠ F → vE' j = vE j := by
      intro x q' hxx hq'
      rw [p_up]
      obtain ⟨m', vE', k1, k2, k3, k4⟩ := r_end2 hN v_mmus hul hF td htl R m (e + 1) (upd vE F x) q' (fun y hy => ht y (List.mem_cons_of_mem _ hy)) (fun j y hj => by rw [show e + 1 + j = e + (j + 1) by omega]; exact hen (j + 1) y (by simpa using hj)) (by omega) (by omega) (by rw [p_u, if_pos rfl]; exact hxx)
      refine ⟨m', vE', k1, by rw [hlen]; omega, ?_, fun j hj => by rw [k4 j hj, p_u, if_neg hj]⟩
      rw [k3, e1, hq', ← Bool.and_assoc]
    rw [f_Model_find_cut_2, if_neg (by rw [p_Ile] <;> omega)]
    simp only [p_ix F (show F < 2147483648 by omega), p_ix e (show e < 2147483648 by omega), i1, i2, if_false, h1, hx.1]
    by_cases c0 : vE F = 0
    · rw [if_pos c0]
      exact go _ false (by rw [r_n1]; simp) (by rw [hq.1 c0]; rfl)
    · rw [if_neg c0, r_size N hN hx.2]
      simp only [Option.bind]
      have hqt : q = true := by
        cases hqq : q with
        | true => rfl
        | false => exact absurd (hq.2 hqq) c0
      by_cases c1 : (ww_pc (F ^^^ t) : Int) < ul
      · rw [if_pos (by rw [p_Ilt] <;> omega)]
        exact go _ false (by rw [r_n1]; simp) (by rw [hqt, decide_eq_false (by omega)]; rfl)
      · rw [if_neg (by rw [p_Ilt] <;> omega)]
        exact go _ true (by simp [r_n0]) (by rw [hqt, decide_eq_true (by omega)]; rfl)
theorem r_end0 (hN : 30000 ≤ N) {n M : Nat} (hn : n ≤ 6) {v_mmus : Nat → Int32} (hmus : ∀ k, k < n → (v_mmus k = 0 ↔ Nat.testBit M k = false)) {td : List Nat} (htd : ∀ t, t ∈ td → t < 64) (htl : td.length ≤ 16) {v_tol : Nat → Int32} (hto : ww_en td v_tol 0) {ul : Int} (hul : 0 ≤ ul ∧ ul ≤ 6) :
    ∀ d m e : Nat, ∀ (vE : Nat → Int32), e + d = 2 ^ n → 30 * d < m → (∀ U, U < e → (vE U = 0 ↔ ww_mE n M ul td U = false)) → ∃ m' vE', f_Model_find_cut N 41 8 6 6 6 6 6 36 36 20992 20992 64 42 246 16 41 41 41 c1 (p_I S) (p_I pc) (p_I n) (p_I least) (p_I most) hp v_mfree v_mpip v_mwid v_mwor v_mcen v_mnee v_mmus v_mnea v_mbar m 0 (p_I ul) (p_I e) 0 (p_I td.length) c3 c4 c5 v u vE vc um v_tol vi va vs = f_Model_find_cut N 41 8 6 6 6 6 6 36 36 20992 20992 64 42 246 16 41 41 41 c1 (p_I S) (p_I pc) (p_I n) (p_I least) (p_I most) hp v_mfree v_mpip v_mwid v_mwor v_mcen v_mnee v_mmus v_mnea v_mbar m' 0 (p_I ul) (p_I ((2 ^ n : Nat) : Int)) 0 (p_I td.length) c3 c4 c5 v u vE' vc um v_tol vi va vs ∧ m ≤ m' + 30 * d ∧ (∀ U, U < 2 ^ n → (vE' U = 0 ↔ ww_mE n M ul td U = false))
  | 0, m, e, vE, h, _, hq => by
    have : e = 2 ^ n := by omega
    exact ⟨m, vE, by rw [this], by omega, by rw [← this]; exact hq⟩
  | d + 1, m, e, vE, h, hm, hq => by
    obtain ⟨m, rfl⟩ : ∃ m', m = m' + 1 := ⟨m - 1, by omega⟩
    have h64 := p_2n n (by omega)
    obtain ⟨m1, vE1, a1, a2, a3, a4⟩ := r_end1 N c1 S pc least most hp c3 c4 c5 v_mfree v_mpip v_mwid v_mnee v_mbar v_mwor v_mcen v_mnea v u vc um vi va vs hn hmus td v_tol ul (F := e) (by omega) n m 0 (upd vE e (vp_nar .boolean 1)) true (by omega) (by omega) (by rw [p_u, if_pos rfl]; simp [r_n0])
    obtain ⟨m2, vE2, b1, b2, b3, b4⟩ := r_end2 N c1 S pc least most hp c3 c4 c5 v_mfree v_mpip v_mwid v_mnee v_mbar v_mwor v_mcen v_mnea v u vc um vi va vs hN (n := n) v_mmus hul (F := e) (by omega) td htl td m1 0 vE1 _ htd hto (by omega) (by omega) a3
    obtain ⟨m3, vE3, d1, d2, d3⟩ := r_end0 hN hn hmus htd htl hto hul d m2 (e + 1) vE2 (by omega) (by omega) (by
      intro U hU
      by_cases c : U = e
      · subst c
        rw [b3]
        unfold ww_mE ww_mu
        rw [Bool.true_and]
      · rw [b4 U c, a4 U c, p_u, if_neg c]
        exact hq U (by omega))
    refine ⟨m3, vE3, ?_, by omega, d3⟩
    rw [f_Model_find_cut_0, p_bit n (by omega), if_neg (by rw [p_Ile] <;> omega), if_neg (p_in (by omega) (by omega)), p_ix e (by omega)]
    exact a1.trans (b1.trans d1)
end
theorem r_find (N : Nat) (hN : 30000 ≤ N) (c1 : Int32) (hp : Bool) (c3 : Int32) (c4 c5 : Int64) {S n pc : Nat} (pp : Nat → Int) (hS : 1 ≤ S ∧ S ≤ 40) {free : Nat → Bool} {w : Nat → Nat} {need : Nat → Int} {wo co : Nat → Int} {nw : Nat → Nat → Int} {bar : Nat → Nat → Bool} {least most : Nat} {v_mwor v_mcen v_mnea : Nat → Int64} {v_mfree v_mwid v_mbar v_mpip v_mnee v_mmus : Nat → Int32} (hr : r_ref n wo co nw bar v_mwor v_mcen v_mnea v_mbar) (hpp : t_pip pc pp v_mpip) (hi : t_nee n w need v_mwid v_mnee) (hle : 1 ≤ least ∧ least ≤ 40) (hmo : most ≤ 40) (hfr : ∀ k, k < S → (v_mfree k = 0 ↔ free k = false)) {M : Nat} (hmus : ∀ k, k < n → (v_mmus k = 0 ↔ Nat.testBit M k = false)) {td : List Nat} (htd : ∀ t, t ∈ td → t < 64) (htl : td.length < 16) {v_tol : Nat → Int32} (hto : ww_en td v_tol 0) {ul : Int} (hul : 0 ≤ ul ∧ ul ≤ 6) (v u : Nat → Int64) (vE vc um vi va vs : Nat → Int32) :
    ∃ v' u' vE' vc' um', r_env N S n free w (fun k q => ww_met pc pp w need k q) nw bar least most wo co (ww_mE n M ul td) v' u' v_mwor v_mcen v_mnea v_mfree v_mwid v_mbar vc' um' ∧
    (∀ (m : Nat) (L : List (Int × Nat × Nat)) (U' : Nat), 0 ≤ r_Bw v' 0 7 0 → ww_path S n free w (fun k q => ww_met pc pp w need k q) nw bar least most wo co (r_Bw v') (r_Bw u') m 0 7 0 L U' → m ≤ S → ∃ vi' va' vs', f_Model_find N 41 8 6 6 6 6 6 36 36 20992 20992 64 42 246 16 41 41 41 c1 (p_I S) (p_I pc) (p_I n) (p_I least) (p_I most) hp (p_I td.length) c3 c4 c5 v_mfree v_mpip v_mwid v_mwor v_mcen v_mnee v_mmus v_mnea v_mbar v u vE vc um v_tol vi va vs (p_I ul) = some (true, p_I ((td.length + 1 : Nat) : Int), p_I L.length, p_J (r_Bw v' 0 7 0), p_J (r_Bw u' 0 7 0), v', u', vE', vc', um', upd v_tol td.length (p_I U'), vi', va', vs') ∧ ww_pl L vi' va' vs') ∧
    (r_Bw v' 0 7 0 < 0 → f_Model_find N 41 8 6 6 6 6 6 36 36 20992 20992 64 42 246 16 41 41 41 c1 (p_I S) (p_I pc) (p_I n) (p_I least) (p_I most) hp (p_I td.length) c3 c4 c5 v_mfree v_mpip v_mwid v_mwor v_mcen v_mnee v_mmus v_mnea v_mbar v u vE vc um v_tol vi va vs (p_I ul) = some (false, p_I td.length, c3, c4, c5, v', u', vE', vc', um', v_tol, vi, va, vs)) := by
  have hn := hr.1
  have h64 := p_2n n (by omega)
  obtain ⟨m1, vE1, a1, a2, a3⟩ := r_end0 N c1 S pc least most hp c3 c4 c5 v_mfree v_mpip v_mwid v_mnee v_mbar v_mwor v_mcen v_mnea v u vc um vi va vs hN hn hmus htd (by omega) hto hul (2 ^ n) N 0 vE (by omega) (by omega) (fun U hU => by omega)
  obtain ⟨v1, u1, vc1, um1, b1, b2, b3, b4⟩ := r_fill N c1 hp (p_I td.length) c3 c4 c5 hN pp hS.2 hr hpp hi hle hmo hfr a3 v u vc um
  have henv : r_env N S n free w (fun k q => ww_met pc pp w need k q) nw bar least most wo co (ww_mE n M ul td) v1 u1 v_mwor v_mcen v_mnea v_mfree v_mwid v_mbar vc1 um1 := ⟨hN, hS.2, hr, fun k hk => ⟨(hi.2 k hk).1, (hi.2 k hk).2.1, (hi.2 k hk).2.2.1⟩, hle, hmo, hfr, b3, b4, b2⟩
  obtain ⟨m2, rfl⟩ : ∃ m', m1 = m' + 1 := ⟨m1 - 1, by omega⟩
  have hbd := r_Bb N henv (a := 0) (b := 7) (U := 0) (by omega) (by omega) (Nat.pow_pos (by omega))
  have hb7 : v1 384 = p_J (r_Bw v1 0 7 0) := (p_Jrd _).symm
  have hu7 : u1 384 = p_J (r_Bw u1 0 7 0) := (p_Jrd _).symm
  have hidx : f_Model_index N 0 6 0 = some (p_I ((384 : Nat) : Int)) := by
    unfold f_Model_index; decide
  have i1 := p_inx (k := 384) (n := 20992) (by omega) (by omega)
  refine ⟨v1, u1, vE1, vc1, um1, henv, ?_, ?_⟩
  · intro m L U' hv hpa hm
    obtain ⟨vi', va', vs', k1, k2⟩ := r_walk0 N c1 (p_I pc) hp (p_I td.length) (p_J (r_Bw v1 0 7 0)) (p_J (r_Bw u1 0 7 0)) henv m N 0 7 0 [] L U' vi va vs hpa (by omega) (by omega) (by omega) (Nat.pow_pos (by omega)) hv (Nat.zero_le _) (fun j p hp => by simp at hp)
    refine ⟨vi', va', vs', ?_, k2⟩
    unfold f_Model_find
    refine a1.trans ?_
    rw [f_Model_find_cut_0, p_bit n (by omega), if_pos (by rw [p_Ile] <;> omega), b1]
    simp only [Option.bind]
    rw [hidx]
    simp only [p_ix 384 (by omega), i1, if_false, hb7, hu7]
    rw [if_pos (by rw [lg_cmp_ge, p_J0, p_Jle] <;> omega)]
    unfold f_Model_walk
    have k1' : f_Model_walk_cut N 41 6 6 6 36 36 20992 20992 42 246 41 41 41 c1 (p_I S) (p_I pc) (p_I n) (p_I least) (p_I most) hp (p_I td.length) (p_J (r_Bw v1 0 7 0)) (p_J (r_Bw u1 0 7 0)) v_mfree v_mwid v_mwor v_mcen v_mnea v_mbar v1 u1 vc1 um1 N 0 0 6 0 0 0 0 0 vi va vs = some (p_I U', p_I L.length, vi', va', vs') := k1
    rw [k1']
    simp only []
    rw [if_neg (p_in (by omega) (by omega)), p_ix _ (by omega), p_up]
  · intro hv
    unfold f_Model_find
    refine a1.trans ?_
    rw [f_Model_find_cut_0, p_bit n (by omega), if_pos (by rw [p_Ile] <;> omega), b1]
    simp only [Option.bind]
    rw [hidx]
    simp only [p_ix 384 (by omega), i1, if_false, hb7, hu7]
    rw [if_neg (by rw [lg_cmp_ge, p_J0, p_Jle] <;> omega)]
