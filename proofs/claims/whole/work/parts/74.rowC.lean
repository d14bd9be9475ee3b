section
variable {N n : Nat} {w : Nat → Nat} {put : Nat → Int} {vb vw : Nat → Int32} (c1 vpi : Int32) (hp : Bool) (c2 c3 : Int32) (c4 c5 : Int64) {S : Nat} {free : Nat → Bool} (v_mfree : Nat → Int32) {least most : Nat}
theorem r_g1 (he : k_env n w put vb vw) (hS : S ≤ 40) (hl : 1 ≤ least ∧ least ≤ 40) (hmo : most ≤ 40) {s run : Nat} (hs : s ≤ 40) (hrun : run ≤ 41) (gap : Bool) : ∀ d m e : Nat, ∀ emp : Bool, e + d = n → d < m → ∃ m', f_Model_hasGap_cut N 41 6 6 c1 (p_I S) vpi (p_I n) (p_I least) (p_I most) hp c2 c3 c4 c5 v_mfree vw vb m 1 (p_I run) gap (p_I s) emp (p_I e) = f_Model_hasGap_cut N 41 6 6 c1 (p_I S) vpi (p_I n) (p_I least) (p_I most) hp c2 c3 c4 c5 v_mfree vw vb m' 0 (p_I ((if (emp && !(ww_any (fun k => ww_cov w put k s) d e)) = true then run + 1 else 0 : Nat) : Int)) (gap || (!(emp && !(ww_any (fun k => ww_cov w put k s) d e)) && ww_bad least most run)) (p_I ((s + 1 : Nat) : Int)) false 0 ∧ m = m' + d + 1
  | 0, m + 1, e, emp, h, _ => by
    have hn := he.1
    refine ⟨m, ?_, by omega⟩
    have hE : (emp && !(ww_any (fun k => ww_cov w put k s) 0 e)) = emp := by show (emp && !false) = emp; simp
    rw [hE, f_Model_hasGap_cut_1, if_pos (by rw [p_Ile] <;> omega), p_up, p_up]
    have t1 : p_I run ≤ 0 ↔ ¬ (0 < run) := by rw [p_0, p_Ile] <;> omega
    have t2 : p_I run < p_I least ↔ ¬ (least ≤ run) := by rw [p_Ilt] <;> omega
    have t3 : p_I run ≤ p_I most ↔ run ≤ most := by rw [p_Ile] <;> omega
    simp only [t1, t2, t3]
    unfold ww_bad ww_wd
    cases gap with
    | true => cases emp <;> rfl
    | false =>
      cases emp with
      | true => rfl
      | false =>
        by_cases e1 : 0 < run
        · by_cases e2 : least ≤ run
          · by_cases e3 : run ≤ most
            · simp [e1, e2, e3]; rfl
            · simp [e1, e2, e3]; rfl
          · simp [e1, e2]; rfl
        · simp [e1]; rfl
  | d + 1, m + 1, e, emp, h, hm => by
    have hn := he.1
    have go : ∀ emp' : Bool, emp' = (emp && !(ww_cov w put e s)) → ∃ m', f_Model_hasGap_cut N 41 6 6 c1 (p_I S) vpi (p_I n) (p_I least) (p_I most) hp c2 c3 c4 c5 v_mfree vw vb m 1 (p_I run) gap (p_I s) emp' (p_I ((e + 1 : Nat) : Int)) = f_Model_hasGap_cut N 41 6 6 c1 (p_I S) vpi (p_I n) (p_I least) (p_I most) hp c2 c3 c4 c5 v_mfree vw vb m' 0 (p_I ((if (emp && !(ww_any (fun k => ww_cov w put k s) (d + 1) e)) = true then run + 1 else 0 : Nat) : Int)) (gap || (!(emp && !(ww_any (fun k => ww_cov w put k s) (d + 1) e)) && ww_bad least most run)) (p_I ((s + 1 : Nat) : Int)) false 0 ∧ m + 1 = m' + (d + 1) + 1 := by
      intro emp' hem
      obtain ⟨m', q1, q2⟩ := r_g1 he hS hl hmo hs hrun gap d m (e + 1) emp' (by omega) (by omega)
      refine ⟨m', ?_, by omega⟩
      have hE : (emp && !(ww_any (fun k => ww_cov w put k s) (d + 1) e)) = (emp' && !(ww_any (fun k => ww_cov w put k s) d (e + 1))) := by
        show (emp && !(ww_cov w put e s || ww_any (fun k => ww_cov w put k s) d (e + 1))) = _
        rw [hem, Bool.not_or, Bool.and_assoc]
      rw [hE]
      exact q1
    rw [f_Model_hasGap_cut_1, if_neg (by rw [p_Ile] <;> omega), r_cov c1 (p_I S) vpi (p_I n) (p_I least) (p_I most) hp c2 c3 c4 c5 he (by omega) hs, p_up]
    simp only [Option.bind]
    cases emp with
    | false => exact go false rfl
    | true =>
      rw [if_pos rfl]
      cases hc : ww_cov w put e s with
      | true => exact go false (by rw [hc]; rfl)
      | false => exact go true (by rw [hc]; rfl)
theorem r_g0 (he : k_env n w put vb vw) (hS : S ≤ 40) (hf : ∀ k, k < S → (v_mfree k = 0 ↔ free k = false)) (hl : 1 ≤ least ∧ least ≤ 40) (hmo : most ≤ 40) : ∀ d m e run : Nat, ∀ gap : Bool, e + d = S → 10 * d + 20 < m → run ≤ e → f_Model_hasGap_cut N 41 6 6 c1 (p_I S) vpi (p_I n) (p_I least) (p_I most) hp c2 c3 c4 c5 v_mfree vw vb m 0 (p_I run) gap (p_I e) false 0 = some (gap || ww_gp free n w put least most d e run)
  | 0, m, e, run, gap, h, hm, hr => by
    have hn := he.1
    obtain ⟨m, rfl⟩ : ∃ m', m = m' + 1 := ⟨m - 1, by omega⟩
    obtain ⟨m1, q1, q2⟩ := r_g1 (N := N) (S := S) c1 vpi hp c2 c3 c4 c5 v_mfree he hS hl hmo (s := e) (run := run) (by omega) (by omega) gap n m 0 false (by omega) (by omega)
    obtain ⟨m1, rfl⟩ : ∃ m', m1 = m' + 1 := ⟨m1 - 1, by omega⟩
    have q1' : f_Model_hasGap_cut N 41 6 6 c1 (p_I S) vpi (p_I n) (p_I least) (p_I most) hp c2 c3 c4 c5 v_mfree vw vb m 1 (p_I run) gap (p_I e) false 0 = _ := q1
    rw [f_Model_hasGap_cut_0, if_neg (by rw [p_Ilt] <;> omega), if_pos (by rw [p_Ile] <;> omega), q1', f_Model_hasGap_cut_0, if_pos (by rw [p_Ilt] <;> omega)]
    rfl
  | d + 1, m, e, run, gap, h, hm, hr => by
    have hn := he.1
    obtain ⟨m, rfl⟩ : ∃ m', m = m' + 1 := ⟨m - 1, by omega⟩
    have key : ∀ emp : Bool, emp = !(free e) → f_Model_hasGap_cut N 41 6 6 c1 (p_I S) vpi (p_I n) (p_I least) (p_I most) hp c2 c3 c4 c5 v_mfree vw vb m 1 (p_I run) gap (p_I e) emp 0 = some (gap || ww_gp free n w put least most (d + 1) e run) := by
      intro emp hem
      obtain ⟨m1, q1, q2⟩ := r_g1 (N := N) (S := S) c1 vpi hp c2 c3 c4 c5 v_mfree he hS hl hmo (s := e) (run := run) (by omega) (by omega) gap n m 0 emp (by omega) (by omega)
      have q1' : f_Model_hasGap_cut N 41 6 6 c1 (p_I S) vpi (p_I n) (p_I least) (p_I most) hp c2 c3 c4 c5 v_mfree vw vb m 1 (p_I run) gap (p_I e) emp 0 = _ := q1
      rw [q1']
      have hc : ww_any (fun k => ww_cov w put k (e : Int)) n 0 = ww_cvd n w put e := rfl
      rw [hc, hem]
      unfold ww_gp
      cases hE : (!(free e) && !(ww_cvd n w put e)) with
      | true =>
        rw [if_pos rfl, if_pos rfl]
        have := r_g0 he hS hf hl hmo d m1 (e + 1) (run + 1) (gap || (!true && ww_bad least most run)) (by omega) (by omega) (by omega)
        rw [this]; simp
      | false =>
        rw [if_neg (by decide), if_neg (by decide)]
        have := r_g0 he hS hf hl hmo d m1 (e + 1) 0 (gap || (!false && ww_bad least most run)) (by omega) (by omega) (by omega)
        rw [this]; simp [Bool.or_assoc]
    rw [f_Model_hasGap_cut_0, if_neg (by rw [p_Ilt] <;> omega), if_neg (by rw [p_Ile] <;> omega), if_neg (p_in (by omega) (by omega)), p_ix e (by omega)]
    cases c : free e with
    | false => rw [if_pos ((hf e (by omega)).2 c)]; exact key true (by rw [c]; rfl)
    | true => rw [if_neg (fun q => by rw [(hf e (by omega)).1 q] at c; cases c)]; exact key false (by rw [c]; rfl)
end
