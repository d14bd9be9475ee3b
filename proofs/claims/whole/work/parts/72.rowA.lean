def ww_ip (put : Nat → Int) (k : Nat) : Bool := decide (put k ≠ -101)
def ww_tch (w : Nat → Nat) (put : Nat → Int) (a b : Nat) : Bool := ww_ip put a && (ww_ip put b && (decide (put a + w a = put b) || decide (put b + w b = put a)))
def ww_cov (w : Nat → Nat) (put : Nat → Int) (k : Nat) (s : Int) : Bool := ww_ip put k && (decide (put k ≤ s) && decide (s < put k + w k))
def ww_shr (w : Nat → Nat) (put : Nat → Int) (a b : Nat) : Bool := ww_ip put a && (ww_ip put b && (decide (put a < put b + w b) && decide (put b < put a + w a)))
def ww_cvd (n : Nat) (w : Nat → Nat) (put : Nat → Int) (s : Int) : Bool := ww_any (fun k => ww_cov w put k s) n 0
def k_env (n : Nat) (w : Nat → Nat) (put : Nat → Int) (vb vw : Nat → Int32) : Prop := n ≤ 6 ∧ ∀ k, k < n → vb k = p_I (put k) ∧ -101 ≤ put k ∧ put k ≤ 100 ∧ vw k = p_I (w k) ∧ 1 ≤ w k ∧ w k ≤ 20
theorem p_m101 : (-101 : Int32) = p_I (-101) := by decide
section
variable {N n : Nat} {w : Nat → Nat} {put : Nat → Int} {vb vw : Nat → Int32}
theorem k_ip (he : k_env n w put vb vw) {k : Nat} (hk : k < n) : f_Row_isPut N 6 vb (p_I k) = some (ww_ip put k) := by
  have hn := he.1
  obtain ⟨h1, h2, h3, -⟩ := he.2 k hk
  unfold f_Row_isPut ww_ip
  rw [if_neg (p_in (by omega) (by omega)), p_ix k (by omega), h1]
  by_cases c : put k = -101
  · rw [if_pos (by rw [c]; decide), decide_eq_false (by simp [c])]
  · rw [if_neg (by rw [p_m101, p_Ieq] <;> omega), decide_eq_true c]
theorem k_end (he : k_env n w put vb vw) (vms vn : Int32) {k : Nat} (hk : k < n) : f_Row_endOf N 6 6 vms vn vw vb (p_I k) = some (p_I (put k + w k)) := by
  have hn := he.1
  obtain ⟨h1, h2, h3, h4, -⟩ := he.2 k hk
  unfold f_Row_endOf
  rw [if_neg (p_in (by omega) (by omega)), if_neg (p_in (by omega) (by omega)), p_ix k (by omega), h1, h4, p_Iadd]
theorem k_tch (he : k_env n w put vb vw) (vms vn : Int32) {a b : Nat} (ha : a < n) (hb : b < n) : f_Row_doTouch N 6 6 vms vn vw vb (p_I a) (p_I b) = some (ww_tch w put a b) := by
  have hn := he.1
  obtain ⟨a1, a2, a3, a4, a5, a6⟩ := he.2 a ha
  obtain ⟨b1, b2, b3, b4, b5, b6⟩ := he.2 b hb
  unfold f_Row_doTouch ww_tch
  rw [k_ip he ha, k_ip he hb, k_end he vms vn ha, k_end he vms vn hb]
  simp only [Option.bind]
  cases ww_ip put a with
  | false => rfl
  | true =>
    cases ww_ip put b with
    | false => rfl
    | true =>
      rw [if_pos rfl, if_pos rfl, if_neg (p_in (by omega) (by omega)), if_neg (p_in (by omega) (by omega)), p_ix a (by omega), p_ix b (by omega), a1, b1, Bool.true_and, Bool.true_and]
      by_cases c : put a + w a = put b
      · rw [if_pos (by rw [c]), decide_eq_true c]; rfl
      · rw [if_neg (by rw [p_Ieq] <;> omega), decide_eq_false c]
        by_cases c2 : put b + w b = put a
        · rw [if_pos (by rw [c2]), decide_eq_true c2]; rfl
        · rw [if_neg (by rw [p_Ieq] <;> omega), decide_eq_false c2]; rfl
theorem k_shr (he : k_env n w put vb vw) (vms vn : Int32) {a b : Nat} (ha : a < n) (hb : b < n) : f_Row_doShare N 6 6 vms vn vw vb (p_I a) (p_I b) = some (ww_shr w put a b) := by
  have hn := he.1
  obtain ⟨a1, a2, a3, a4, a5, a6⟩ := he.2 a ha
  obtain ⟨b1, b2, b3, b4, b5, b6⟩ := he.2 b hb
  unfold f_Row_doShare ww_shr
  rw [k_ip he ha, k_ip he hb, k_end he vms vn ha, k_end he vms vn hb]
  simp only [Option.bind]
  cases ww_ip put a with
  | false => rfl
  | true =>
    cases ww_ip put b with
    | false => rfl
    | true =>
      rw [if_pos rfl, if_pos rfl, if_neg (p_in (by omega) (by omega)), if_neg (p_in (by omega) (by omega)), p_ix a (by omega), p_ix b (by omega), a1, b1, Bool.true_and, Bool.true_and]
      by_cases c : put b + w b ≤ put a
      · rw [if_pos (by rw [p_Ile] <;> omega), decide_eq_false (p := put a < put b + w b) (by omega)]; rfl
      · rw [if_neg (by rw [p_Ile] <;> omega), decide_eq_true (p := put a < put b + w b) (by omega)]
        by_cases c2 : put a + w a ≤ put b
        · rw [if_pos (by rw [p_Ile] <;> omega), decide_eq_false (p := put b < put a + w a) (by omega)]; rfl
        · rw [if_neg (by rw [p_Ile] <;> omega), decide_eq_true (p := put b < put a + w a) (by omega)]; rfl
theorem k_cov (he : k_env n w put vb vw) (vms vn : Int32) {k : Nat} (hk : k < n) {s : Nat} (hs : s ≤ 40) : f_Row_covers N 6 6 vms vn vw vb (p_I k) (p_I s) = some (ww_cov w put k s) := by
  have hn := he.1
  obtain ⟨a1, a2, a3, a4, a5, a6⟩ := he.2 k hk
  unfold f_Row_covers ww_cov
  rw [k_ip he hk, k_end he vms vn hk]
  simp only [Option.bind]
  cases ww_ip put k with
  | false => rfl
  | true =>
    rw [if_pos rfl, if_neg (p_in (by omega) (by omega)), p_ix k (by omega), a1, Bool.true_and]
    by_cases c : (s : Int) < put k
    · rw [if_pos (by rw [p_Ilt] <;> omega), decide_eq_false (p := put k ≤ (s : Int)) (by omega)]; rfl
    · rw [if_neg (by rw [p_Ilt] <;> omega), decide_eq_true (p := put k ≤ (s : Int)) (by omega)]
      by_cases c2 : put k + w k ≤ s
      · rw [if_pos (by rw [p_Ile] <;> omega), decide_eq_false (p := (s : Int) < put k + w k) (by omega)]; rfl
      · rw [if_neg (by rw [p_Ile] <;> omega), decide_eq_true (p := (s : Int) < put k + w k) (by omega)]; rfl
theorem k_cvd_cut (he : k_env n w put vb vw) (vms : Int32) {s : Nat} (hs : s ≤ 40) : ∀ d m e : Nat, e + d = n → d < m → f_Row_isCovered_cut N 6 6 vms (p_I n) vw vb m 0 (p_I s) (p_I e) = some (ww_any (fun k => ww_cov w put k s) d e)
  | 0, m + 1, e, h, _ => by
    have hn := he.1
    rw [f_Row_isCovered_cut_0, if_pos (by rw [p_Ile] <;> omega)]; rfl
  | d + 1, m + 1, e, h, hm => by
    have hn := he.1
    rw [f_Row_isCovered_cut_0, if_neg (by rw [p_Ile] <;> omega), k_cov he vms (p_I n) (by omega) hs, p_up, k_cvd_cut he vms hs d m (e + 1) (by omega) (by omega)]
    simp only [Option.bind]
    show _ = some (ww_cov w put e s || _)
    cases ww_cov w put e s <;> rfl
theorem k_cvd (he : k_env n w put vb vw) (hN : 30000 ≤ N) (vms : Int32) {s : Nat} (hs : s ≤ 40) : f_Row_isCovered N 6 6 vms (p_I n) vw vb (p_I s) = some (ww_cvd n w put s) := by
  have hn := he.1
  unfold f_Row_isCovered
  exact k_cvd_cut he vms hs n N 0 (by omega) (by omega)
theorem k_set_cut (he : k_env n w put vb vw) (vms : Int32) : ∀ d m e s : Nat, e + d = n → d < m → s < 64 → (∀ k, k < 6 → Nat.testBit s k = (decide (k < e) && ww_ip put k)) → ∃ q : Nat, f_Row_putSet_cut N 6 vms (p_I n) vb m 0 (p_I s) (p_I e) = some (p_I q) ∧ q < 64 ∧ ∀ k, k < 6 → Nat.testBit q k = (decide (k < n) && ww_ip put k)
  | 0, m + 1, e, s, h, _, hs, hb => by
    have hn := he.1
    obtain rfl : e = n := by omega
    exact ⟨s, by rw [f_Row_putSet_cut_0, if_pos (by rw [p_Ile] <;> omega)], hs, hb⟩
  | d + 1, m + 1, e, s, h, hm, hs, hb => by
    have hn := he.1
    rw [f_Row_putSet_cut_0, if_neg (by rw [p_Ile] <;> omega), k_ip he (by omega), p_up]
    simp only [Option.bind]
    cases hc : ww_ip put e with
    | true =>
      rw [if_pos rfl, p_bit e (by omega), p_or s hs e (by omega)]
      refine k_set_cut he vms d m (e + 1) (s ||| 2 ^ e) (by omega) (by omega) (p_or64 hs (by omega)) (fun k hk => ?_)
      rw [p_b6 s hs e (by omega) k hk, hb k hk]
      by_cases ck : k = e
      · subst ck; rw [hc]; simp
      · rw [show decide (k < e + 1) = decide (k < e) from decide_eq_decide.2 (by omega)]; simp [ck]
    | false =>
      rw [if_neg (by decide)]
      refine k_set_cut he vms d m (e + 1) s (by omega) (by omega) hs (fun k hk => ?_)
      rw [hb k hk]
      by_cases ck : k = e
      · subst ck; rw [hc]; simp
      · rw [show decide (k < e + 1) = decide (k < e) from decide_eq_decide.2 (by omega)]
theorem k_set (he : k_env n w put vb vw) (hN : 30000 ≤ N) (vms : Int32) : ∃ q : Nat, f_Row_putSet N 6 vms (p_I n) vb = some (p_I q) ∧ q < 64 ∧ ∀ k, k < 6 → Nat.testBit q k = (decide (k < n) && ww_ip put k) := by
  have hn := he.1
  unfold f_Row_putSet
  exact k_set_cut he vms n N 0 0 (by omega) (by omega) (by omega) (fun k hk => by simp)
def ww_off (S : Nat) (w : Nat → Nat) (put : Nat → Int) (k : Nat) : Bool := ww_ip put k && !(decide (0 ≤ put k) && decide (put k + w k ≤ (S : Int)))
theorem k_off_cut (he : k_env n w put vb vw) {S : Nat} (hS : S ≤ 40) (vpc vms : Int32) : ∀ d m e : Nat, e + d = n → d < m → f_Row_someIsOffTheWall_cut N 6 6 (p_I S) vpc vms (p_I n) vw vb m 0 (p_I e) = some (ww_any (ww_off S w put) d e)
  | 0, m + 1, e, h, _ => by
    have hn := he.1
    rw [f_Row_someIsOffTheWall_cut_0, if_pos (by rw [p_Ile] <;> omega)]; rfl
  | d + 1, m + 1, e, h, hm => by
    have hn := he.1
    obtain ⟨a1, a2, a3, a4, a5, a6⟩ := he.2 e (by omega)
    rw [f_Row_someIsOffTheWall_cut_0, if_neg (by rw [p_Ile] <;> omega), k_ip he (by omega), p_up, k_off_cut he hS vpc vms d m (e + 1) (by omega) (by omega)]
    simp only [Option.bind]
    show _ = some (ww_off S w put e || _)
    unfold ww_off
    cases ww_ip put e with
    | false => rfl
    | true =>
      rw [if_pos rfl, if_neg (p_in (by omega) (by omega)), if_neg (p_in (by omega) (by omega)), p_ix e (by omega), a1, a4, Bool.true_and]
      unfold f_Wall_holds
      rw [p_Iadd]
      by_cases c : put e < 0
      · rw [if_pos (by rw [p_0, p_Ilt] <;> omega), decide_eq_false (p := 0 ≤ put e) (by omega)]; rfl
      · rw [if_neg (by rw [p_0, p_Ilt] <;> omega), decide_eq_true (p := 0 ≤ put e) (by omega)]
        by_cases c2 : (S : Int) < put e + w e
        · rw [if_pos (by rw [p_Ilt] <;> omega), decide_eq_false (p := put e + w e ≤ (S : Int)) (by omega)]; rfl
        · rw [if_neg (by rw [p_Ilt] <;> omega), decide_eq_true (p := put e + w e ≤ (S : Int)) (by omega)]; rfl
theorem k_fr_cut (he : k_env n w put vb vw) (hN : 30000 ≤ N) {S : Nat} (hS : S ≤ 40) {free : Nat → Bool} {v_wfree : Nat → Int32} (hf : ∀ k, k < S → (v_wfree k = 0 ↔ free k = false)) (vpc vms : Int32) : ∀ d m e : Nat, e + d = S → d < m → f_Row_someIsOnAFreeStep_cut N S 6 6 (p_I S) vpc v_wfree vms (p_I n) vw vb m 0 (p_I e) = some (ww_any (fun s => free s && ww_cvd n w put s) d e)
  | 0, m + 1, e, h, _ => by
    rw [f_Row_someIsOnAFreeStep_cut_0, if_pos (by rw [p_Ile] <;> omega)]; rfl
  | d + 1, m + 1, e, h, hm => by
    rw [f_Row_someIsOnAFreeStep_cut_0, if_neg (by rw [p_Ile] <;> omega), if_neg (p_in (by omega) (by omega)), p_ix e (by omega), k_cvd he hN vms (by omega), p_up, k_fr_cut he hN hS hf vpc vms d m (e + 1) (by omega) (by omega)]
    simp only [Option.bind]
    show _ = some ((free e && ww_cvd n w put e) || _)
    cases c : free e with
    | false => rw [if_pos ((hf e (by omega)).2 c)]; rfl
    | true =>
      rw [if_neg (fun q => by rw [(hf e (by omega)).1 q] at c; cases c)]
      cases ww_cvd n w put e <;> rfl
def ww_nm (pc : Nat) (pp : Nat → Int) (w : Nat → Nat) (need : Nat → Int) (put : Nat → Int) (k : Nat) : Bool := ww_ip put k && !(ww_met pc pp w need k (put k))
theorem k_nm_cut (he : k_env n w put vb vw) (hN : 30000 ≤ N) (vs vms : Int32) {pc : Nat} {pp : Nat → Int} {need : Nat → Int} {v_wpip v_inee : Nat → Int32} (hp : t_pip pc pp v_wpip) (hi : t_nee n w need vw v_inee) : ∀ d m e : Nat, e + d = n → d < m → f_Row_someNeedIsNotMet_cut N 8 6 6 6 vs (p_I pc) v_wpip vms (p_I n) vw v_inee vb m 0 (p_I e) = some (ww_any (ww_nm pc pp w need put) d e)
  | 0, m + 1, e, h, _ => by
    have hn := he.1
    rw [f_Row_someNeedIsNotMet_cut_0, if_pos (by rw [p_Ile] <;> omega)]; rfl
  | d + 1, m + 1, e, h, hm => by
    have hn := he.1
    obtain ⟨a1, a2, a3, a4, a5, a6⟩ := he.2 e (by omega)
    rw [f_Row_someNeedIsNotMet_cut_0, if_neg (by rw [p_Ile] <;> omega), k_ip he (by omega), p_up, k_nm_cut he hN vs vms hp hi d m (e + 1) (by omega) (by omega)]
    simp only [Option.bind]
    show _ = some (ww_nm pc pp w need put e || _)
    unfold ww_nm
    cases ww_ip put e with
    | false => rfl
    | true =>
      rw [if_pos rfl, if_neg (p_in (by omega) (by omega)), p_ix e (by omega), a1, t_met N hN vs vms n pc pp w need v_wpip vw v_inee hp hi (by omega) (by omega)]
      simp only []
      cases ww_met pc pp w need e (put e) <;> rfl
theorem k_sh1 (he : k_env n w put vb vw) (vms : Int32) {a : Nat} (ha : a < n) : ∀ d m e : Nat, e + d = n → d < m → (ww_any (fun b => ww_shr w put a b) d e = true → f_Row_someShareAStep_cut N 6 6 vms (p_I n) vw vb m 1 (p_I a) (p_I e) = some true) ∧ (ww_any (fun b => ww_shr w put a b) d e = false → ∃ m', f_Row_someShareAStep_cut N 6 6 vms (p_I n) vw vb m 1 (p_I a) (p_I e) = f_Row_someShareAStep_cut N 6 6 vms (p_I n) vw vb m' 0 (p_I ((a + 1 : Nat) : Int)) 0 ∧ m = m' + d + 1)
  | 0, m + 1, e, h, _ => by
    have hn := he.1
    refine ⟨fun h => by (cases h), fun _ => ⟨m, ?_, by omega⟩⟩
    rw [f_Row_someShareAStep_cut_1, if_pos (by rw [p_Ile] <;> omega), p_up]
  | d + 1, m + 1, e, h, hm => by
    have hn := he.1
    obtain ⟨i1, i2⟩ := k_sh1 he vms ha d m (e + 1) (by omega) (by omega)
    have hany : ww_any (fun b => ww_shr w put a b) (d + 1) e = (ww_shr w put a e || ww_any (fun b => ww_shr w put a b) d (e + 1)) := rfl
    rw [f_Row_someShareAStep_cut_1, if_neg (by rw [p_Ile] <;> omega), k_shr he vms (p_I n) ha (by omega), p_up, hany]
    simp only [Option.bind]
    cases ww_shr w put a e with
    | true => exact ⟨fun _ => rfl, fun h => by cases h⟩
    | false =>
      rw [if_neg (by decide), Bool.false_or]
      refine ⟨i1, fun h => ?_⟩
      obtain ⟨m', q1, q2⟩ := i2 h
      exact ⟨m', q1, by omega⟩
theorem k_sh0 (he : k_env n w put vb vw) (vms : Int32) : ∀ d m e : Nat, e + d = n → 10 * d < m → f_Row_someShareAStep_cut N 6 6 vms (p_I n) vw vb m 0 (p_I e) 0 = some (ww_any (fun a => ww_any (fun b => ww_shr w put a b) (n - (a + 1)) (a + 1)) d e)
  | 0, m + 1, e, h, _ => by
    have hn := he.1
    rw [f_Row_someShareAStep_cut_0, if_pos (by rw [p_Ile] <;> omega)]; rfl
  | d + 1, m + 1, e, h, hm => by
    have hn := he.1
    obtain ⟨i1, i2⟩ := k_sh1 (N := N) he vms (a := e) (by omega) (n - (e + 1)) m (e + 1) (by omega) (by omega)
    rw [f_Row_someShareAStep_cut_0, if_neg (by rw [p_Ile] <;> omega), p_up]
    show _ = some (ww_any (fun b => ww_shr w put e b) (n - (e + 1)) (e + 1) || _)
    cases hc : ww_any (fun b => ww_shr w put e b) (n - (e + 1)) (e + 1) with
    | true => rw [i1 hc]; rfl
    | false =>
      obtain ⟨m', q1, q2⟩ := i2 hc
      rw [q1, k_sh0 he vms d m' (e + 1) (by omega) (by omega)]; rfl
theorem k_isB (N : Nat) {n : Nat} {bar : Nat → Nat → Bool} {v_ibar : Nat → Int32} (hb : ∀ k, k < 8 → ∃ s : Nat, s < 64 ∧ v_ibar k = p_I s ∧ ∀ b, b < 8 → Nat.testBit s b = bar k b) (vms vn : Int32) {a b : Nat} (ha : a < 8) (hb8 : b < 8) : f_Items_isBarred N 8 vms vn v_ibar (p_I a) (p_I b) = some (bar a b) := by
  obtain ⟨s, s1, s2, s3⟩ := hb a ha
  unfold f_Items_isBarred
  rw [if_neg (p_in ha (by omega)), p_ix a (by omega), s2, p_bit b hb8]
  have hh := p_has s s1 b hb8
  rw [s3 b hb8] at hh
  cases hc : bar a b with
  | false => rw [if_pos (hh.2 hc)]
  | true => rw [if_neg (fun q => by rw [hh.1 q] at hc; cases hc)]
theorem k_bt1 (he : k_env n w put vb vw) {bar : Nat → Nat → Bool} {v_ibar : Nat → Int32} (hb : ∀ k, k < 8 → ∃ s : Nat, s < 64 ∧ v_ibar k = p_I s ∧ ∀ b, b < 8 → Nat.testBit s b = bar k b) (vms : Int32) {a : Nat} (ha : a < n) : ∀ d m e : Nat, e + d = n → d < m → (ww_any (fun b => bar a b && ww_tch w put a b) d e = true → f_Row_someBarredTouch_cut N 6 8 6 vms (p_I n) vw v_ibar vb m 1 (p_I a) (p_I e) = some true) ∧ (ww_any (fun b => bar a b && ww_tch w put a b) d e = false → ∃ m', f_Row_someBarredTouch_cut N 6 8 6 vms (p_I n) vw v_ibar vb m 1 (p_I a) (p_I e) = f_Row_someBarredTouch_cut N 6 8 6 vms (p_I n) vw v_ibar vb m' 0 (p_I ((a + 1 : Nat) : Int)) 0 ∧ m = m' + d + 1)
  | 0, m + 1, e, h, _ => by
    have hn := he.1
    refine ⟨fun h => by (cases h), fun _ => ⟨m, ?_, by omega⟩⟩
    rw [f_Row_someBarredTouch_cut_1, if_pos (by rw [p_Ile] <;> omega), p_up]
  | d + 1, m + 1, e, h, hm => by
    have hn := he.1
    obtain ⟨i1, i2⟩ := k_bt1 he hb vms ha d m (e + 1) (by omega) (by omega)
    have hany : ww_any (fun b => bar a b && ww_tch w put a b) (d + 1) e = ((bar a e && ww_tch w put a e) || ww_any (fun b => bar a b && ww_tch w put a b) d (e + 1)) := rfl
    have no : (ww_any (fun b => bar a b && ww_tch w put a b) d (e + 1) = true → f_Row_someBarredTouch_cut N 6 8 6 vms (p_I n) vw v_ibar vb m 1 (p_I a) (p_I ((e + 1 : Nat) : Int)) = some true) ∧ (ww_any (fun b => bar a b && ww_tch w put a b) d (e + 1) = false → ∃ m', f_Row_someBarredTouch_cut N 6 8 6 vms (p_I n) vw v_ibar vb m 1 (p_I a) (p_I ((e + 1 : Nat) : Int)) = f_Row_someBarredTouch_cut N 6 8 6 vms (p_I n) vw v_ibar vb m' 0 (p_I ((a + 1 : Nat) : Int)) 0 ∧ m + 1 = m' + (d + 1) + 1) := by
      refine ⟨i1, fun h => ?_⟩
      obtain ⟨m', q1, q2⟩ := i2 h
      exact ⟨m', q1, by omega⟩
    rw [f_Row_someBarredTouch_cut_1, if_neg (by rw [p_Ile] <;> omega), k_isB N (n := n) hb vms (p_I n) (by omega) (by omega), k_tch he vms (p_I n) ha (by omega), p_up, hany]
    simp only [Option.bind]
    cases bar a e with
    | false => exact no
    | true =>
      rw [if_pos rfl]
      cases ww_tch w put a e with
      | true => exact ⟨fun _ => rfl, fun h => by cases h⟩
      | false => exact no
theorem k_bt0 (he : k_env n w put vb vw) {bar : Nat → Nat → Bool} {v_ibar : Nat → Int32} (hb : ∀ k, k < 8 → ∃ s : Nat, s < 64 ∧ v_ibar k = p_I s ∧ ∀ b, b < 8 → Nat.testBit s b = bar k b) (vms : Int32) : ∀ d m e : Nat, e + d = n → 10 * d < m → f_Row_someBarredTouch_cut N 6 8 6 vms (p_I n) vw v_ibar vb m 0 (p_I e) 0 = some (ww_any (fun a => ww_any (fun b => bar a b && ww_tch w put a b) (n - (a + 1)) (a + 1)) d e)
  | 0, m + 1, e, h, _ => by
    have hn := he.1
    rw [f_Row_someBarredTouch_cut_0, if_pos (by rw [p_Ile] <;> omega)]; rfl
  | d + 1, m + 1, e, h, hm => by
    have hn := he.1
    obtain ⟨i1, i2⟩ := k_bt1 (N := N) he hb vms (a := e) (by omega) (n - (e + 1)) m (e + 1) (by omega) (by omega)
    rw [f_Row_someBarredTouch_cut_0, if_neg (by rw [p_Ile] <;> omega), p_up]
    show _ = some (ww_any (fun b => bar e b && ww_tch w put e b) (n - (e + 1)) (e + 1) || _)
    cases hc : ww_any (fun b => bar e b && ww_tch w put e b) (n - (e + 1)) (e + 1) with
    | true => rw [i1 hc]; rfl
    | false =>
      obtain ⟨m', q1, q2⟩ := i2 hc
      rw [q1, k_bt0 he hb vms d m' (e + 1) (by omega) (by omega)]; rfl
def ww_wd (least most g : Nat) : Bool := decide (least ≤ g) && decide (g ≤ most)
def ww_bad (least most g : Nat) : Bool := decide (0 < g) && !(ww_wd least most g)
def ww_gp (free : Nat → Bool) (n : Nat) (w : Nat → Nat) (put : Nat → Int) (least most : Nat) : Nat → Nat → Nat → Bool
  | 0, _, g => ww_bad least most g
  | d + 1, s, g => if (!(free s) && !(ww_cvd n w put s)) = true then ww_gp free n w put least most d (s + 1) (g + 1) else (ww_bad least most g || ww_gp free n w put least most d (s + 1) 0)
theorem k_wd (N : Nat) {least most g : Nat} (hl : least ≤ 40) (hm : most ≤ 40) (hg : g ≤ 41) : f_Fillers_isWidth N (p_I least) (p_I most) (p_I g) = some (ww_wd least most g) := by
  unfold f_Fillers_isWidth ww_wd
  by_cases c : g < least
  · rw [if_pos (by rw [p_Ilt] <;> omega), decide_eq_false (by omega)]; rfl
  · rw [if_neg (by rw [p_Ilt] <;> omega), decide_eq_true (by omega)]
    by_cases c2 : most < g
    · rw [if_pos (by rw [p_Ilt] <;> omega), decide_eq_false (by omega)]; rfl
    · rw [if_neg (by rw [p_Ilt] <;> omega), decide_eq_true (by omega)]; rfl
theorem k_gap_cut (he : k_env n w put vb vw) (hN : 30000 ≤ N) {S : Nat} (hS : S ≤ 40) {free : Nat → Bool} {v_wfree : Nat → Int32} (hf : ∀ k, k < S → (v_wfree k = 0 ↔ free k = false)) (vpc vms : Int32) {least most : Nat} (hl : least ≤ 40) (hmo : most ≤ 40) : ∀ d m e g : Nat, e + d = S → d < m → g ≤ e → f_Row_someGapIsNoFiller_cut N S 6 6 (p_I S) vpc v_wfree vms (p_I n) vw (p_I least) (p_I most) vb m 0 (p_I g) (p_I e) = some (ww_gp free n w put least most d e g)
  | 0, m + 1, e, g, h, _, hg => by
    rw [f_Row_someGapIsNoFiller_cut_0, if_pos (by rw [p_Ile] <;> omega), k_wd N hl hmo (by omega)]
    show _ = some (ww_bad least most g)
    unfold ww_bad
    by_cases c : g = 0
    · rw [if_pos (by rw [c]; decide), decide_eq_false (by omega)]; rfl
    · rw [if_neg (by rw [p_0, p_Ile] <;> omega), decide_eq_true (by omega)]
      simp only [Option.bind]
      cases ww_wd least most g <;> rfl
  | d + 1, m + 1, e, g, h, hm, hg => by
    have i1 := k_gap_cut he hN hS hf vpc vms hl hmo d m (e + 1) (g + 1) (by omega) (by omega) (by omega)
    have i0 := k_gap_cut he hN hS hf vpc vms hl hmo d m (e + 1) 0 (by omega) (by omega) (by omega)
    have i0' : f_Row_someGapIsNoFiller_cut N S 6 6 (p_I S) vpc v_wfree vms (p_I n) vw (p_I least) (p_I most) vb m 0 0 (p_I ((e + 1 : Nat) : Int)) = some (ww_gp free n w put least most d (e + 1) 0) := i0
    have brk : (if p_I g ≤ 0 then f_Row_someGapIsNoFiller_cut N S 6 6 (p_I S) vpc v_wfree vms (p_I n) vw (p_I least) (p_I most) vb m 0 0 (p_I ((e + 1 : Nat) : Int)) else match some (ww_wd least most g) with | none => none | some r => if r = true then f_Row_someGapIsNoFiller_cut N S 6 6 (p_I S) vpc v_wfree vms (p_I n) vw (p_I least) (p_I most) vb m 0 0 (p_I ((e + 1 : Nat) : Int)) else some true) = some (ww_bad least most g || ww_gp free n w put least most d (e + 1) 0) := by
      rw [i0']
      unfold ww_bad
      by_cases c : g = 0
      · rw [if_pos (by rw [c]; decide), decide_eq_false (by omega)]; rfl
      · rw [if_neg (by rw [p_0, p_Ile] <;> omega), decide_eq_true (by omega)]
        simp only []
        cases ww_wd least most g <;> rfl
    rw [f_Row_someGapIsNoFiller_cut_0, if_neg (by rw [p_Ile] <;> omega), if_neg (p_in (by omega) (by omega)), p_ix e (by omega), k_cvd he hN vms (by omega), k_wd N hl hmo (by omega), p_up, p_up]
    simp only [Option.bind]
    unfold ww_gp
    cases c : free e with
    | true =>
      rw [if_neg (fun q => by rw [(hf e (by omega)).1 q] at c; cases c)]
      exact brk
    | false =>
      rw [if_pos ((hf e (by omega)).2 c)]
      cases c2 : ww_cvd n w put e with
      | true =>
        rw [if_pos rfl]
        exact brk
      | false =>
        rw [if_neg (show ¬ (false = true) by decide)]
        exact i1
end
