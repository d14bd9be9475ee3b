section
variable {N n : Nat} {w : Nat → Nat} {put : Nat → Int} {vb vw : Nat → Int32} (c1 vst vpi vit vle vmo : Int32) (hp : Bool) (c2 c3 : Int32) (c4 c5 : Int64)
theorem r_ip (he : k_env n w put vb vw) {k : Nat} (hk : k < n) : f_Model_isPut N 6 c1 vst vpi vit vle vmo hp c2 c3 c4 c5 vb (p_I k) = some (ww_ip put k) := by
  have hn := he.1
  obtain ⟨h1, h2, h3, -⟩ := he.2 k hk
  unfold f_Model_isPut ww_ip
  rw [if_neg (p_in (by omega) (by omega)), p_ix k (by omega), h1]
  by_cases c : put k = -101
  · rw [if_pos (by rw [c]; decide), decide_eq_false (by simp [c])]
  · rw [if_neg (by rw [p_m101, p_Ieq] <;> omega), decide_eq_true c]
theorem r_tch (he : k_env n w put vb vw) {a b : Nat} (ha : a < n) (hb : b < n) : f_Model_touch N 6 6 c1 vst vpi vit vle vmo hp c2 c3 c4 c5 vw vb (p_I a) (p_I b) = some (ww_tch w put a b) := by
  have hn := he.1
  obtain ⟨a1, a2, a3, a4, a5, a6⟩ := he.2 a ha
  obtain ⟨b1, b2, b3, b4, b5, b6⟩ := he.2 b hb
  have i1 := p_inx (k := a) (n := 6) (by omega) (by omega)
  have i2 := p_inx (k := b) (n := 6) (by omega) (by omega)
  unfold f_Model_touch ww_tch
  rw [r_ip c1 vst vpi vit vle vmo hp c2 c3 c4 c5 he ha, r_ip c1 vst vpi vit vle vmo hp c2 c3 c4 c5 he hb]
  simp only [Option.bind, p_ix a (show a < 2147483648 by omega), p_ix b (show b < 2147483648 by omega), i1, i2, if_false, a1, a4, b1, b4, p_Iadd]
  cases ww_ip put a with
  | false => rfl
  | true =>
    cases ww_ip put b with
    | false => rfl
    | true =>
      rw [if_pos rfl, if_pos rfl, Bool.true_and, Bool.true_and]
      by_cases c : put a + w a = put b
      · rw [if_pos (by rw [c]), decide_eq_true c]; rfl
      · rw [if_neg (by rw [p_Ieq] <;> omega), decide_eq_false c]
        by_cases c2 : put b + w b = put a
        · rw [if_pos (by rw [c2]), decide_eq_true c2]; rfl
        · rw [if_neg (by rw [p_Ieq] <;> omega), decide_eq_false c2]; rfl
theorem r_cov (he : k_env n w put vb vw) {k : Nat} (hk : k < n) {s : Nat} (hs : s ≤ 40) : f_Model_covers N 6 6 c1 vst vpi vit vle vmo hp c2 c3 c4 c5 vw vb (p_I k) (p_I s) = some (ww_cov w put k s) := by
  have hn := he.1
  obtain ⟨a1, a2, a3, a4, a5, a6⟩ := he.2 k hk
  have i1 := p_inx (k := k) (n := 6) (by omega) (by omega)
  unfold f_Model_covers ww_cov
  rw [r_ip c1 vst vpi vit vle vmo hp c2 c3 c4 c5 he hk]
  simp only [Option.bind, p_ix k (show k < 2147483648 by omega), i1, if_false, a1, a4, p_Iadd]
  cases ww_ip put k with
  | false => rfl
  | true =>
    rw [if_pos rfl, Bool.true_and]
    by_cases c : (s : Int) < put k
    · rw [if_pos (by rw [p_Ilt] <;> omega), decide_eq_false (p := put k ≤ (s : Int)) (by omega)]; rfl
    · rw [if_neg (by rw [p_Ilt] <;> omega), decide_eq_true (p := put k ≤ (s : Int)) (by omega)]
      by_cases c2 : put k + w k ≤ s
      · rw [if_pos (by rw [p_Ile] <;> omega), decide_eq_false (p := (s : Int) < put k + w k) (by omega)]; rfl
      · rw [if_neg (by rw [p_Ile] <;> omega), decide_eq_true (p := (s : Int) < put k + w k) (by omega)]; rfl
theorem ww_or_if (a b : Bool) (x y : Int32) : (if b = true then y else if a = true then y else x) = if (a || b) = true then y else x := by
  cases a <;> cases b <;> rfl
section
variable {S pc : Nat} {pp : Nat → Int} {free : Nat → Bool} {need : Nat → Int} {bar : Nat → Nat → Bool} {M : Nat} (v_mfree v_mpip v_mnee v_mmus v_mbar : Nat → Int32)
theorem r_c1 (he : k_env n w put vb vw) (hbar : ∀ b k, b < 6 → k < 6 → (v_mbar (6 * b + k) = 0 ↔ bar k b = false)) {a : Nat} (ha : a < n) : ∀ d m e : Nat, ∀ x : Int32, e + d = a → d < m → ∃ m', f_Model_check_cut N 41 8 6 6 6 36 6 (p_I S) (p_I pc) (p_I n) vle vmo hp c2 c3 c4 c5 v_mfree v_mpip vw v_mnee v_mmus v_mbar vb m 1 x (p_I a) (p_I e) c1 = f_Model_check_cut N 41 8 6 6 6 36 6 (p_I S) (p_I pc) (p_I n) vle vmo hp c2 c3 c4 c5 v_mfree v_mpip vw v_mnee v_mmus v_mbar vb m' 0 (if ww_any (fun b => ww_tch w put a b && bar b a) d e = true then 6 else x) (p_I ((a + 1 : Nat) : Int)) 0 c1 ∧ m = m' + d + 1
  | 0, m + 1, e, x, h, _ => by
    have hn := he.1
    refine ⟨m, ?_, by omega⟩
    rw [f_Model_check_cut_1, if_pos (by rw [p_Ile] <;> omega), p_up]; rfl
  | d + 1, m + 1, e, x, h, hm => by
    have hn := he.1
    have hany : ww_any (fun b => ww_tch w put a b && bar b a) (d + 1) e = ((ww_tch w put a e && bar e a) || ww_any (fun b => ww_tch w put a b && bar b a) d (e + 1)) := rfl
    have go : ∀ c : Bool, c = (ww_tch w put a e && bar e a) → ∃ m', f_Model_check_cut N 41 8 6 6 6 36 6 (p_I S) (p_I pc) (p_I n) vle vmo hp c2 c3 c4 c5 v_mfree v_mpip vw v_mnee v_mmus v_mbar vb m 1 (if c = true then 6 else x) (p_I a) (p_I ((e + 1 : Nat) : Int)) c1 = f_Model_check_cut N 41 8 6 6 6 36 6 (p_I S) (p_I pc) (p_I n) vle vmo hp c2 c3 c4 c5 v_mfree v_mpip vw v_mnee v_mmus v_mbar vb m' 0 (if ww_any (fun b => ww_tch w put a b && bar b a) (d + 1) e = true then 6 else x) (p_I ((a + 1 : Nat) : Int)) 0 c1 ∧ m + 1 = m' + (d + 1) + 1 := by
      intro c hc
      obtain ⟨m', q1, q2⟩ := r_c1 he hbar ha d m (e + 1) (if c = true then 6 else x) (by omega) (by omega)
      refine ⟨m', ?_, by omega⟩
      rw [q1, ww_or_if, hc, hany]
    rw [f_Model_check_cut_1, if_neg (by rw [p_Ile] <;> omega), r_tch c1 (p_I S) (p_I pc) (p_I n) vle vmo hp c2 c3 c4 c5 he ha (by omega), p_up]
    simp only [Option.bind]
    cases ht : ww_tch w put a e with
    | false =>
      rw [ht] at go
      exact go false rfl
    | true =>
      rw [ht] at go
      rw [if_pos rfl, p_m6, if_neg (p_in (by omega) (by omega)), p_ix _ (by omega)]
      have hb := hbar a e (by omega) (by omega)
      cases hc : bar e a with
      | false =>
        rw [if_pos (hb.2 hc)]
        rw [hc] at go
        exact go false rfl
      | true =>
        rw [if_neg (fun q => by rw [hb.1 q] at hc; cases hc)]
        rw [hc] at go
        exact go true rfl
theorem r_c0 (he : k_env n w put vb vw) (hbar : ∀ b k, b < 6 → k < 6 → (v_mbar (6 * b + k) = 0 ↔ bar k b = false)) : ∀ d m e : Nat, ∀ x : Int32, e + d = n → 10 * d < m → ∃ m', f_Model_check_cut N 41 8 6 6 6 36 6 (p_I S) (p_I pc) (p_I n) vle vmo hp c2 c3 c4 c5 v_mfree v_mpip vw v_mnee v_mmus v_mbar vb m 0 x (p_I e) 0 c1 = f_Model_check_cut N 41 8 6 6 6 36 6 (p_I S) (p_I pc) (p_I n) vle vmo hp c2 c3 c4 c5 v_mfree v_mpip vw v_mnee v_mmus v_mbar vb m' 2 (if ww_any (fun a => ww_any (fun b => ww_tch w put a b && bar b a) a 0) d e = true then 6 else x) 0 0 c1 ∧ m ≤ m' + 10 * d + 1
  | 0, m + 1, e, x, h, _ => by
    have hn := he.1
    refine ⟨m, ?_, by omega⟩
    rw [f_Model_check_cut_0, if_pos (by rw [p_Ile] <;> omega)]; rfl
  | d + 1, m + 1, e, x, h, hm => by
    have hn := he.1
    obtain ⟨m1, q1, q2⟩ := r_c1 (N := N) (S := S) (pc := pc) c1 vle vmo hp c2 c3 c4 c5 v_mfree v_mpip v_mnee v_mmus v_mbar he hbar (a := e) (by omega) e m 0 x (by omega) (by omega)
    obtain ⟨m2, q3, q4⟩ := r_c0 he hbar d m1 (e + 1) _ (by omega) (by omega)
    refine ⟨m2, ?_, by omega⟩
    rw [f_Model_check_cut_0, if_neg (by rw [p_Ile] <;> omega)]
    refine q1.trans (q3.trans ?_)
    rw [ww_or_if]; rfl
theorem r_c2 (hN : 30000 ≤ N) (he : k_env n w put vb vw) (hpp : t_pip pc pp v_mpip) (hi : t_nee n w need vw v_mnee) : ∀ d m e : Nat, ∀ x : Int32, e + d = n → d < m → ∃ m', f_Model_check_cut N 41 8 6 6 6 36 6 (p_I S) (p_I pc) (p_I n) vle vmo hp c2 c3 c4 c5 v_mfree v_mpip vw v_mnee v_mmus v_mbar vb m 2 x (p_I e) 0 c1 = f_Model_check_cut N 41 8 6 6 6 36 6 (p_I S) (p_I pc) (p_I n) vle vmo hp c2 c3 c4 c5 v_mfree v_mpip vw v_mnee v_mmus v_mbar vb m' 3 (if ww_any (ww_nm pc pp w need put) d e = true then 5 else x) 0 0 c1 ∧ m = m' + d + 1
  | 0, m + 1, e, x, h, _ => by
    have hn := he.1
    refine ⟨m, ?_, by omega⟩
    rw [f_Model_check_cut_2, if_pos (by rw [p_Ile] <;> omega)]; rfl
  | d + 1, m + 1, e, x, h, hm => by
    have hn := he.1
    obtain ⟨a1, a2, a3, a4, a5, a6⟩ := he.2 e (by omega)
    have go : ∀ c : Bool, c = ww_nm pc pp w need put e → ∃ m', f_Model_check_cut N 41 8 6 6 6 36 6 (p_I S) (p_I pc) (p_I n) vle vmo hp c2 c3 c4 c5 v_mfree v_mpip vw v_mnee v_mmus v_mbar vb m 2 (if c = true then 5 else x) (p_I ((e + 1 : Nat) : Int)) 0 c1 = f_Model_check_cut N 41 8 6 6 6 36 6 (p_I S) (p_I pc) (p_I n) vle vmo hp c2 c3 c4 c5 v_mfree v_mpip vw v_mnee v_mmus v_mbar vb m' 3 (if ww_any (ww_nm pc pp w need put) (d + 1) e = true then 5 else x) 0 0 c1 ∧ m + 1 = m' + (d + 1) + 1 := by
      intro c hc
      obtain ⟨m', q1, q2⟩ := r_c2 hN he hpp hi d m (e + 1) (if c = true then 5 else x) (by omega) (by omega)
      refine ⟨m', ?_, by omega⟩
      rw [q1, ww_or_if, hc]; rfl
    rw [f_Model_check_cut_2, if_neg (by rw [p_Ile] <;> omega), r_ip c1 (p_I S) (p_I pc) (p_I n) vle vmo hp c2 c3 c4 c5 he (by omega), p_up]
    simp only [Option.bind]
    unfold ww_nm at go
    cases ht : ww_ip put e with
    | false =>
      rw [ht] at go
      exact go false rfl
    | true =>
      rw [ht] at go
      rw [if_pos rfl, if_neg (p_in (by omega) (by omega)), p_ix e (by omega), a1, r_need N c1 (p_I S) (p_I n) vle vmo hp c2 c3 c4 c5 hN n pc pp w need v_mpip vw v_mnee hpp hi (by omega) (by omega)]
      simp only []
      cases hc : ww_met pc pp w need e (put e) with
      | true => rw [hc] at go; exact go false rfl
      | false => rw [hc] at go; exact go true rfl
theorem r_c3 (he : k_env n w put vb vw) (hmus : ∀ k, k < n → (v_mmus k = 0 ↔ Nat.testBit M k = false)) : ∀ d m e : Nat, ∀ x : Int32, e + d = n → d < m → ∃ m', f_Model_check_cut N 41 8 6 6 6 36 6 (p_I S) (p_I pc) (p_I n) vle vmo hp c2 c3 c4 c5 v_mfree v_mpip vw v_mnee v_mmus v_mbar vb m 3 x (p_I e) 0 c1 = f_Model_check_cut N 41 8 6 6 6 36 6 (p_I S) (p_I pc) (p_I n) vle vmo hp c2 c3 c4 c5 v_mfree v_mpip vw v_mnee v_mmus v_mbar vb m' 4 (if ww_any (fun k => Nat.testBit M k && !(ww_ip put k)) d e = true then 4 else x) 0 0 c1 ∧ m = m' + d + 1
  | 0, m + 1, e, x, h, _ => by
    have hn := he.1
    refine ⟨m, ?_, by omega⟩
    rw [f_Model_check_cut_3, if_pos (by rw [p_Ile] <;> omega)]; rfl
  | d + 1, m + 1, e, x, h, hm => by
    have hn := he.1
    have go : ∀ c : Bool, c = (Nat.testBit M e && !(ww_ip put e)) → ∃ m', f_Model_check_cut N 41 8 6 6 6 36 6 (p_I S) (p_I pc) (p_I n) vle vmo hp c2 c3 c4 c5 v_mfree v_mpip vw v_mnee v_mmus v_mbar vb m 3 (if c = true then 4 else x) (p_I ((e + 1 : Nat) : Int)) 0 c1 = f_Model_check_cut N 41 8 6 6 6 36 6 (p_I S) (p_I pc) (p_I n) vle vmo hp c2 c3 c4 c5 v_mfree v_mpip vw v_mnee v_mmus v_mbar vb m' 4 (if ww_any (fun k => Nat.testBit M k && !(ww_ip put k)) (d + 1) e = true then 4 else x) 0 0 c1 ∧ m + 1 = m' + (d + 1) + 1 := by
      intro c hc
      obtain ⟨m', q1, q2⟩ := r_c3 he hmus d m (e + 1) (if c = true then 4 else x) (by omega) (by omega)
      refine ⟨m', ?_, by omega⟩
      rw [q1, ww_or_if, hc]; rfl
    rw [f_Model_check_cut_3, if_neg (by rw [p_Ile] <;> omega), if_neg (p_in (by omega) (by omega)), p_ix e (by omega), r_ip c1 (p_I S) (p_I pc) (p_I n) vle vmo hp c2 c3 c4 c5 he (by omega), p_up]
    simp only [Option.bind]
    have hm2 := hmus e (by omega)
    cases hM : Nat.testBit M e with
    | false =>
      rw [hM] at go
      rw [if_pos (hm2.2 hM)]
      exact go false rfl
    | true =>
      rw [hM] at go
      rw [if_neg (fun q => by rw [hm2.1 q] at hM; cases hM)]
      cases hc : ww_ip put e with
      | true => rw [hc] at go; exact go false rfl
      | false => rw [hc] at go; exact go true rfl
theorem r_c5 (he : k_env n w put vb vw) (hS : S ≤ 40) (hf : ∀ k, k < S → (v_mfree k = 0 ↔ free k = false)) {s : Nat} (hs : s < S) : ∀ d m e : Nat, ∀ x : Int32, e + d = n → d < m → ∃ m', f_Model_check_cut N 41 8 6 6 6 36 6 (p_I S) (p_I pc) (p_I n) vle vmo hp c2 c3 c4 c5 v_mfree v_mpip vw v_mnee v_mmus v_mbar vb m 5 x (p_I s) (p_I e) c1 = f_Model_check_cut N 41 8 6 6 6 36 6 (p_I S) (p_I pc) (p_I n) vle vmo hp c2 c3 c4 c5 v_mfree v_mpip vw v_mnee v_mmus v_mbar vb m' 4 (if ww_any (fun k => free s && ww_cov w put k s) d e = true then 3 else x) (p_I ((s + 1 : Nat) : Int)) 0 c1 ∧ m = m' + d + 1
  | 0, m + 1, e, x, h, _ => by
    have hn := he.1
    refine ⟨m, ?_, by omega⟩
    rw [f_Model_check_cut_5, if_pos (by rw [p_Ile] <;> omega), p_up]; rfl
  | d + 1, m + 1, e, x, h, hm => by
    have hn := he.1
    have go : ∀ c : Bool, c = (free s && ww_cov w put e s) → ∃ m', f_Model_check_cut N 41 8 6 6 6 36 6 (p_I S) (p_I pc) (p_I n) vle vmo hp c2 c3 c4 c5 v_mfree v_mpip vw v_mnee v_mmus v_mbar vb m 5 (if c = true then 3 else x) (p_I s) (p_I ((e + 1 : Nat) : Int)) c1 = f_Model_check_cut N 41 8 6 6 6 36 6 (p_I S) (p_I pc) (p_I n) vle vmo hp c2 c3 c4 c5 v_mfree v_mpip vw v_mnee v_mmus v_mbar vb m' 4 (if ww_any (fun k => free s && ww_cov w put k s) (d + 1) e = true then 3 else x) (p_I ((s + 1 : Nat) : Int)) 0 c1 ∧ m + 1 = m' + (d + 1) + 1 := by
      intro c hc
      obtain ⟨m', q1, q2⟩ := r_c5 he hS hf hs d m (e + 1) (if c = true then 3 else x) (by omega) (by omega)
      refine ⟨m', ?_, by omega⟩
      rw [q1, ww_or_if, hc]; rfl
    rw [f_Model_check_cut_5, if_neg (by rw [p_Ile] <;> omega), if_neg (p_in (by omega) (by omega)), p_ix s (by omega), r_cov c1 (p_I S) (p_I pc) (p_I n) vle vmo hp c2 c3 c4 c5 he (by omega) (by omega), p_up]
    simp only [Option.bind]
    have hm2 := hf s hs
    cases hM : free s with
    | false =>
      rw [hM] at go
      rw [if_pos (hm2.2 hM)]
      exact go false rfl
    | true =>
      rw [hM] at go
      rw [if_neg (fun q => by rw [hm2.1 q] at hM; cases hM)]
      cases hc : ww_cov w put e s with
      | true => rw [hc] at go; exact go true rfl
      | false => rw [hc] at go; exact go false rfl
theorem r_c4 (he : k_env n w put vb vw) (hS : S ≤ 40) (hf : ∀ k, k < S → (v_mfree k = 0 ↔ free k = false)) : ∀ d m e : Nat, ∀ x : Int32, e + d = S → 10 * d < m → ∃ m', f_Model_check_cut N 41 8 6 6 6 36 6 (p_I S) (p_I pc) (p_I n) vle vmo hp c2 c3 c4 c5 v_mfree v_mpip vw v_mnee v_mmus v_mbar vb m 4 x (p_I e) 0 c1 = f_Model_check_cut N 41 8 6 6 6 36 6 (p_I S) (p_I pc) (p_I n) vle vmo hp c2 c3 c4 c5 v_mfree v_mpip vw v_mnee v_mmus v_mbar vb m' 6 (if ww_any (fun s => ww_any (fun k => free s && ww_cov w put k s) n 0) d e = true then 3 else x) 0 0 c1 ∧ m ≤ m' + 10 * d + 1
  | 0, m + 1, e, x, h, _ => by
    refine ⟨m, ?_, by omega⟩
    rw [f_Model_check_cut_4, if_pos (by rw [p_Ile] <;> omega)]; rfl
  | d + 1, m + 1, e, x, h, hm => by
    have hn := he.1
    obtain ⟨m1, q1, q2⟩ := r_c5 (N := N) (S := S) (pc := pc) c1 vle vmo hp c2 c3 c4 c5 v_mfree v_mpip v_mnee v_mmus v_mbar he hS hf (s := e) (by omega) n m 0 x (by omega) (by omega)
    obtain ⟨m2, q3, q4⟩ := r_c4 he hS hf d m1 (e + 1) _ (by omega) (by omega)
    refine ⟨m2, ?_, by omega⟩
    rw [f_Model_check_cut_4, if_neg (by rw [p_Ile] <;> omega)]
    refine q1.trans (q3.trans ?_)
    rw [ww_or_if]; rfl
theorem r_c7 (he : k_env n w put vb vw) {a : Nat} (ha : a < n) : ∀ d m e : Nat, ∀ x : Int32, e + d = a → d < m → ∃ m', f_Model_check_cut N 41 8 6 6 6 36 6 (p_I S) (p_I pc) (p_I n) vle vmo hp c2 c3 c4 c5 v_mfree v_mpip vw v_mnee v_mmus v_mbar vb m 7 x (p_I a) (p_I e) c1 = f_Model_check_cut N 41 8 6 6 6 36 6 (p_I S) (p_I pc) (p_I n) vle vmo hp c2 c3 c4 c5 v_mfree v_mpip vw v_mnee v_mmus v_mbar vb m' 6 (if ww_any (fun b => ww_shr w put a b) d e = true then 2 else x) (p_I ((a + 1 : Nat) : Int)) 0 c1 ∧ m = m' + d + 1
  | 0, m + 1, e, x, h, _ => by
    have hn := he.1
    refine ⟨m, ?_, by omega⟩
    rw [f_Model_check_cut_7, if_pos (by rw [p_Ile] <;> omega), p_up]; rfl
  | d + 1, m + 1, e, x, h, hm => by
    have hn := he.1
    obtain ⟨a1, a2, a3, a4, a5, a6⟩ := he.2 a (by omega)
    obtain ⟨b1, b2, b3, b4, b5, b6⟩ := he.2 e (by omega)
    have i1 := p_inx (k := a) (n := 6) (by omega) (by omega)
    have i2 := p_inx (k := e) (n := 6) (by omega) (by omega)
    have go : ∀ c : Bool, c = ww_shr w put a e → ∃ m', f_Model_check_cut N 41 8 6 6 6 36 6 (p_I S) (p_I pc) (p_I n) vle vmo hp c2 c3 c4 c5 v_mfree v_mpip vw v_mnee v_mmus v_mbar vb m 7 (if c = true then 2 else x) (p_I a) (p_I ((e + 1 : Nat) : Int)) c1 = f_Model_check_cut N 41 8 6 6 6 36 6 (p_I S) (p_I pc) (p_I n) vle vmo hp c2 c3 c4 c5 v_mfree v_mpip vw v_mnee v_mmus v_mbar vb m' 6 (if ww_any (fun b => ww_shr w put a b) (d + 1) e = true then 2 else x) (p_I ((a + 1 : Nat) : Int)) 0 c1 ∧ m + 1 = m' + (d + 1) + 1 := by
      intro c hc
      obtain ⟨m', q1, q2⟩ := r_c7 he ha d m (e + 1) (if c = true then 2 else x) (by omega) (by omega)
      refine ⟨m', ?_, by omega⟩
      rw [q1, ww_or_if, hc]; rfl
    rw [f_Model_check_cut_7, if_neg (by rw [p_Ile] <;> omega), r_ip c1 (p_I S) (p_I pc) (p_I n) vle vmo hp c2 c3 c4 c5 he ha, r_ip c1 (p_I S) (p_I pc) (p_I n) vle vmo hp c2 c3 c4 c5 he (by omega), p_up]
    simp only [Option.bind, p_ix a (show a < 2147483648 by omega), p_ix e (show e < 2147483648 by omega), i1, i2, if_false, a1, a4, b1, b4, p_Iadd]
    cases h1 : ww_ip put a with
    | false => exact go false (by unfold ww_shr; rw [h1]; rfl)
    | true =>
      rw [if_pos rfl]
      cases h2 : ww_ip put e with
      | false => exact go false (by unfold ww_shr; rw [h1, h2]; rfl)
      | true =>
        rw [if_pos rfl]
        by_cases c : put e + w e ≤ put a
        · rw [if_pos (by rw [p_Ile] <;> omega)]
          exact go false (by unfold ww_shr; rw [h1, h2, decide_eq_false (p := put a < put e + w e) (by omega)]; rfl)
        · rw [if_neg (by rw [p_Ile] <;> omega)]
          by_cases c' : put a + w a ≤ put e
          · rw [if_pos (by rw [p_Ile] <;> omega)]
            exact go false (by unfold ww_shr; rw [h1, h2, decide_eq_true (p := put a < put e + w e) (by omega), decide_eq_false (p := put e < put a + w a) (by omega)]; rfl)
          · rw [if_neg (by rw [p_Ile] <;> omega)]
            exact go true (by unfold ww_shr; rw [h1, h2, decide_eq_true (p := put a < put e + w e) (by omega), decide_eq_true (p := put e < put a + w a) (by omega)]; rfl)
theorem r_c6 (he : k_env n w put vb vw) : ∀ d m e : Nat, ∀ x : Int32, e + d = n → 10 * d < m → ∃ m', f_Model_check_cut N 41 8 6 6 6 36 6 (p_I S) (p_I pc) (p_I n) vle vmo hp c2 c3 c4 c5 v_mfree v_mpip vw v_mnee v_mmus v_mbar vb m 6 x (p_I e) 0 c1 = f_Model_check_cut N 41 8 6 6 6 36 6 (p_I S) (p_I pc) (p_I n) vle vmo hp c2 c3 c4 c5 v_mfree v_mpip vw v_mnee v_mmus v_mbar vb m' 8 (if ww_any (fun a => ww_any (fun b => ww_shr w put a b) a 0) d e = true then 2 else x) 0 0 c1 ∧ m ≤ m' + 10 * d + 1
  | 0, m + 1, e, x, h, _ => by
    have hn := he.1
    refine ⟨m, ?_, by omega⟩
    rw [f_Model_check_cut_6, if_pos (by rw [p_Ile] <;> omega)]; rfl
  | d + 1, m + 1, e, x, h, hm => by
    have hn := he.1
    obtain ⟨m1, q1, q2⟩ := r_c7 (N := N) (S := S) (pc := pc) c1 vle vmo hp c2 c3 c4 c5 v_mfree v_mpip v_mnee v_mmus v_mbar he (a := e) (by omega) e m 0 x (by omega) (by omega)
    obtain ⟨m2, q3, q4⟩ := r_c6 he d m1 (e + 1) _ (by omega) (by omega)
    refine ⟨m2, ?_, by omega⟩
    rw [f_Model_check_cut_6, if_neg (by rw [p_Ile] <;> omega)]
    refine q1.trans (q3.trans ?_)
    rw [ww_or_if]; rfl
theorem r_c8 (he : k_env n w put vb vw) (hS : S ≤ 40) : ∀ d m e : Nat, ∀ x : Int32, e + d = n → d < m → f_Model_check_cut N 41 8 6 6 6 36 6 (p_I S) (p_I pc) (p_I n) vle vmo hp c2 c3 c4 c5 v_mfree v_mpip vw v_mnee v_mmus v_mbar vb m 8 x (p_I e) 0 c1 = some ((if ww_any (ww_off S w put) d e = true then 1 else x), c1)
  | 0, m + 1, e, x, h, _ => by
    have hn := he.1
    rw [f_Model_check_cut_8, if_pos (by rw [p_Ile] <;> omega)]; rfl
  | d + 1, m + 1, e, x, h, hm => by
    have hn := he.1
    obtain ⟨a1, a2, a3, a4, a5, a6⟩ := he.2 e (by omega)
    have i1 := p_inx (k := e) (n := 6) (by omega) (by omega)
    have go : ∀ c : Bool, c = ww_off S w put e → f_Model_check_cut N 41 8 6 6 6 36 6 (p_I S) (p_I pc) (p_I n) vle vmo hp c2 c3 c4 c5 v_mfree v_mpip vw v_mnee v_mmus v_mbar vb m 8 (if c = true then 1 else x) (p_I ((e + 1 : Nat) : Int)) 0 c1 = some ((if ww_any (ww_off S w put) (d + 1) e = true then 1 else x), c1) := by
      intro c hc
      rw [r_c8 he hS d m (e + 1) (if c = true then 1 else x) (by omega) (by omega), ww_or_if, hc]; rfl
    rw [f_Model_check_cut_8, if_neg (by rw [p_Ile] <;> omega), r_ip c1 (p_I S) (p_I pc) (p_I n) vle vmo hp c2 c3 c4 c5 he (by omega), p_up]
    simp only [Option.bind, p_ix e (show e < 2147483648 by omega), i1, if_false, a1, a4, p_Iadd]
    unfold ww_off at go
    cases h1 : ww_ip put e with
    | false => rw [h1] at go; exact go false rfl
    | true =>
      rw [h1] at go
      rw [if_pos rfl]
      by_cases c : put e < 0
      · rw [decide_eq_false (p := 0 ≤ put e) (by omega)] at go
        rw [if_pos (by rw [p_0, p_Ilt] <;> omega)]
        exact go true rfl
      · rw [decide_eq_true (p := 0 ≤ put e) (by omega)] at go
        rw [if_neg (by rw [p_0, p_Ilt] <;> omega)]
        by_cases c' : put e + w e ≤ (S : Int)
        · rw [decide_eq_true c'] at go
          rw [if_pos (by rw [p_Ile] <;> omega)]
          exact go false rfl
        · rw [decide_eq_false c'] at go
          rw [if_neg (by rw [p_Ile] <;> omega)]
          exact go true rfl
end
end
