theorem p_sub : ∀ n : Nat, n < 7 → ∀ q : Nat, q < 64 → (∀ k : Nat, k < 6 → Nat.testBit q k = true → k < n) → q < 2 ^ n := by decide +kernel
theorem ww_tch_sym (w : Nat → Nat) (put : Nat → Int) (a b : Nat) : ww_tch w put a b = ww_tch w put b a := by
  unfold ww_tch
  rw [Bool.or_comm (decide (put a + w a = put b))]
  cases ww_ip put a <;> cases ww_ip put b <;> rfl
theorem ww_shr_sym (w : Nat → Nat) (put : Nat → Int) (a b : Nat) : ww_shr w put a b = ww_shr w put b a := by
  unfold ww_shr
  rw [Bool.and_comm (decide (put a < put b + w b))]
  cases ww_ip put a <;> cases ww_ip put b <;> rfl
theorem ww_pairs (n : Nat) (f g : Nat → Nat → Bool) (h : ∀ a b, f a b = g b a) : ww_any (fun a => ww_any (fun b => f a b) (n - (a + 1)) (a + 1)) n 0 = ww_any (fun a => ww_any (fun b => g a b) a 0) n 0 := by
  rw [Bool.eq_iff_iff, ww_any_iff, ww_any_iff]
  constructor
  · rintro ⟨a, h1, h2, h3⟩
    rw [ww_any_iff] at h3
    obtain ⟨b, g1, g2, g3⟩ := h3
    refine ⟨b, by omega, by omega, ?_⟩
    rw [ww_any_iff]
    exact ⟨a, by omega, by omega, by rw [← h]; exact g3⟩
  · rintro ⟨a, h1, h2, h3⟩
    rw [ww_any_iff] at h3
    obtain ⟨b, g1, g2, g3⟩ := h3
    refine ⟨b, by omega, by omega, ?_⟩
    rw [ww_any_iff]
    exact ⟨a, by omega, by omega, by rw [h]; exact g3⟩
theorem ww_any_congr {f g : Nat → Bool} : ∀ d e, (∀ k, e ≤ k → k < e + d → f k = g k) → ww_any f d e = ww_any g d e
  | 0, _, _ => rfl
  | d + 1, e, h => by
    show (f e || ww_any f d (e + 1)) = (g e || ww_any g d (e + 1))
    rw [h e (Nat.le_refl _) (by omega), ww_any_congr d (e + 1) (fun k h1 h2 => h k (by omega) (by omega))]
theorem ww_any_and (c : Bool) (f : Nat → Bool) : ∀ d e, ww_any (fun k => c && f k) d e = (c && ww_any f d e)
  | 0, _ => by cases c <;> rfl
  | d + 1, e => by
    show ((c && f e) || ww_any (fun k => c && f k) d (e + 1)) = (c && (f e || ww_any f d (e + 1)))
    rw [ww_any_and c f d (e + 1)]
    cases c <;> rfl
def ww_su (f : Nat → Int) : Nat → Nat → Int
  | 0, _ => 0
  | d + 1, e => f e + ww_su f d (e + 1)
theorem ww_su_sw (T : Nat → Nat → Int) {n : Nat} (hn : n ≤ 6) : ww_su (fun a => ww_su (fun b => T a b) (n - (a + 1)) (a + 1)) n 0 = ww_su (fun a => ww_su (fun b => T b a) a 0) n 0 := by
  have h : n = 0 ∨ n = 1 ∨ n = 2 ∨ n = 3 ∨ n = 4 ∨ n = 5 ∨ n = 6 := by omega
  rcases h with rfl | rfl | rfl | rfl | rfl | rfl | rfl <;> simp [ww_su] <;> omega
theorem ww_su_add (f g : Nat → Int) : ∀ d e, ww_su (fun k => f k + g k) d e = ww_su f d e + ww_su g d e
  | 0, _ => rfl
  | d + 1, e => by
    show f e + g e + ww_su (fun k => f k + g k) d (e + 1) = f e + ww_su f d (e + 1) + (g e + ww_su g d (e + 1))
    rw [ww_su_add f g d (e + 1)]
    omega
theorem ww_su_congr {f g : Nat → Int} : ∀ d e, (∀ k, e ≤ k → k < e + d → f k = g k) → ww_su f d e = ww_su g d e
  | 0, _, _ => rfl
  | d + 1, e, h => by
    show f e + ww_su f d (e + 1) = g e + ww_su g d (e + 1)
    rw [h e (Nat.le_refl _) (by omega), ww_su_congr d (e + 1) (fun k h1 h2 => h k (by omega) (by omega))]
theorem ww_su_ps (f : Nat → Int) (ip : Nat → Bool) {n q : Nat} (hn : n ≤ 6) (hq : ∀ k, k < 6 → Nat.testBit q k = (decide (k < n) && ip k)) : p_sum f q = ww_su (fun k => if ip k = true then f k else 0) n 0 := by
  unfold p_sum
  rw [hq 0 (by omega), hq 1 (by omega), hq 2 (by omega), hq 3 (by omega), hq 4 (by omega), hq 5 (by omega)]
  have h : n = 0 ∨ n = 1 ∨ n = 2 ∨ n = 3 ∨ n = 4 ∨ n = 5 ∨ n = 6 := by omega
  rcases h with rfl | rfl | rfl | rfl | rfl | rfl | rfl <;> simp [ww_su] <;> omega
section
variable {N n : Nat} {w : Nat → Nat} {put : Nat → Int} {vb vw : Nat → Int32} {nw : Nat → Nat → Int}
theorem k_w1 (he : k_env n w put vb vw) (vms : Int32) {v_inea : Nat → Int64} (hne : ∀ k b, k < 8 → b < 8 → v_inea (k * 8 + b) = p_J (nw k b)) (v_iswo : Nat → Int64) {a : Nat} (ha : a < n) : ∀ d m e : Nat, ∀ x : Int, e + d = n → d < m → ∃ m', f_Row_wholeWorth_cut N 6 64 64 6 vms (p_I n) vw v_inea v_iswo vb m 1 (p_J x) (p_I a) (p_I e) = f_Row_wholeWorth_cut N 6 64 64 6 vms (p_I n) vw v_inea v_iswo vb m' 0 (p_J (x + ww_su (fun b => if ww_tch w put a b = true then nw a b else 0) d e)) (p_I ((a + 1 : Nat) : Int)) 0 ∧ m = m' + d + 1
  | 0, m + 1, e, x, h, _ => by
    have hn := he.1
    refine ⟨m, ?_, by omega⟩
    rw [f_Row_wholeWorth_cut_1, if_pos (by rw [p_Ile] <;> omega), p_up]
    simp [ww_su]
  | d + 1, m + 1, e, x, h, hm => by
    have hn := he.1
    have go : ∀ y : Int, y = (if ww_tch w put a e = true then nw a e else 0) → ∃ m', f_Row_wholeWorth_cut N 6 64 64 6 vms (p_I n) vw v_inea v_iswo vb m 1 (p_J (x + y)) (p_I a) (p_I ((e + 1 : Nat) : Int)) = f_Row_wholeWorth_cut N 6 64 64 6 vms (p_I n) vw v_inea v_iswo vb m' 0 (p_J (x + ww_su (fun b => if ww_tch w put a b = true then nw a b else 0) (d + 1) e)) (p_I ((a + 1 : Nat) : Int)) 0 ∧ m + 1 = m' + (d + 1) + 1 := by
      intro y hy
      obtain ⟨m', q1, q2⟩ := k_w1 he vms hne v_iswo ha d m (e + 1) (x + y) (by omega) (by omega)
      refine ⟨m', ?_, by omega⟩
      rw [q1, hy]
      show _ = f_Row_wholeWorth_cut N 6 64 64 6 vms (p_I n) vw v_inea v_iswo vb m' 0 (p_J (x + ((if ww_tch w put a e = true then nw a e else 0) + ww_su (fun b => if ww_tch w put a b = true then nw a b else 0) d (e + 1)))) (p_I ((a + 1 : Nat) : Int)) 0
      rw [Int.add_assoc]
    rw [f_Row_wholeWorth_cut_1, if_neg (by rw [p_Ile] <;> omega), k_tch he vms (p_I n) ha (by omega), p_up]
    simp only [Option.bind]
    cases ht : ww_tch w put a e with
    | false =>
      rw [if_neg (by decide)]
      have := go 0 (by rw [ht]; rfl)
      rw [Int.add_zero] at this
      exact this
    | true =>
      rw [if_pos rfl]
      unfold f_Items_nearWorthOf
      rw [p_pair, if_neg (p_in (by omega) (by omega)), p_ix _ (by omega), hne a e (by omega) (by omega)]
      simp only []
      rw [p_Jadd]
      exact go (nw a e) (by rw [ht]; rfl)
theorem k_w0 (he : k_env n w put vb vw) (vms : Int32) {v_inea : Nat → Int64} (hne : ∀ k b, k < 8 → b < 8 → v_inea (k * 8 + b) = p_J (nw k b)) (v_iswo : Nat → Int64) : ∀ d m e : Nat, ∀ x : Int, e + d = n → 10 * d < m → f_Row_wholeWorth_cut N 6 64 64 6 vms (p_I n) vw v_inea v_iswo vb m 0 (p_J x) (p_I e) 0 = some (p_J (x + ww_su (fun a => ww_su (fun b => if ww_tch w put a b = true then nw a b else 0) (n - (a + 1)) (a + 1)) d e))
  | 0, m + 1, e, x, h, _ => by
    have hn := he.1
    rw [f_Row_wholeWorth_cut_0, if_pos (by rw [p_Ile] <;> omega)]
    simp [ww_su]
  | d + 1, m + 1, e, x, h, hm => by
    have hn := he.1
    obtain ⟨m', q1, q2⟩ := k_w1 (N := N) he vms hne v_iswo (a := e) (by omega) (n - (e + 1)) m (e + 1) x (by omega) (by omega)
    rw [f_Row_wholeWorth_cut_0, if_neg (by rw [p_Ile] <;> omega), p_up, q1, k_w0 he vms hne v_iswo d m' (e + 1) _ (by omega) (by omega), Int.add_assoc]
    rfl
end
section
variable {N n : Nat} {w : Nat → Nat} {put : Nat → Int} {vb vw : Nat → Int32} {nw : Nat → Nat → Int} {wo : Nat → Int} (c1 vst vpi vle vmo : Int32) (hp : Bool) (c2 c3 : Int32) (c4 c5 : Int64)
theorem r_w1 (he : k_env n w put vb vw) {v_mnea : Nat → Int64} (hne : ∀ b k, b < 6 → k < 6 → v_mnea (6 * b + k) = p_J (nw k b)) (v_mwor : Nat → Int64) {a : Nat} (ha : a < n) : ∀ d m e : Nat, ∀ x : Int, e + d = a → d < m → ∃ m', f_Model_row_cut N 6 6 36 6 vst vpi (p_I n) vle vmo hp c2 c3 c4 c5 vw v_mwor v_mnea vb m 1 (p_J x) (p_I a) (p_I e) c1 = f_Model_row_cut N 6 6 36 6 vst vpi (p_I n) vle vmo hp c2 c3 c4 c5 vw v_mwor v_mnea vb m' 0 (p_J (x + ww_su (fun b => if ww_tch w put b a = true then nw b a else 0) d e)) (p_I ((a + 1 : Nat) : Int)) 0 c1 ∧ m = m' + d + 1
  | 0, m + 1, e, x, h, _ => by
    have hn := he.1
    refine ⟨m, ?_, by omega⟩
    rw [f_Model_row_cut_1, if_pos (by rw [p_Ile] <;> omega), p_up]
    simp [ww_su]
  | d + 1, m + 1, e, x, h, hm => by
    have hn := he.1
    have go : ∀ y : Int, y = (if ww_tch w put e a = true then nw e a else 0) → ∃ m', f_Model_row_cut N 6 6 36 6 vst vpi (p_I n) vle vmo hp c2 c3 c4 c5 vw v_mwor v_mnea vb m 1 (p_J (x + y)) (p_I a) (p_I ((e + 1 : Nat) : Int)) c1 = f_Model_row_cut N 6 6 36 6 vst vpi (p_I n) vle vmo hp c2 c3 c4 c5 vw v_mwor v_mnea vb m' 0 (p_J (x + ww_su (fun b => if ww_tch w put b a = true then nw b a else 0) (d + 1) e)) (p_I ((a + 1 : Nat) : Int)) 0 c1 ∧ m + 1 = m' + (d + 1) + 1 := by
      intro y hy
      obtain ⟨m', q1, q2⟩ := r_w1 he hne v_mwor ha d m (e + 1) (x + y) (by omega) (by omega)
      refine ⟨m', ?_, by omega⟩
      rw [q1, hy]
      show _ = f_Model_row_cut N 6 6 36 6 vst vpi (p_I n) vle vmo hp c2 c3 c4 c5 vw v_mwor v_mnea vb m' 0 (p_J (x + ((if ww_tch w put e a = true then nw e a else 0) + ww_su (fun b => if ww_tch w put b a = true then nw b a else 0) d (e + 1)))) (p_I ((a + 1 : Nat) : Int)) 0 c1
      rw [Int.add_assoc]
    rw [f_Model_row_cut_1, if_neg (by rw [p_Ile] <;> omega), r_tch c1 vst vpi (p_I n) vle vmo hp c2 c3 c4 c5 he ha (by omega), p_up, ww_tch_sym]
    simp only [Option.bind]
    cases ht : ww_tch w put e a with
    | false =>
      rw [if_neg (by decide), p_J0, p_Jadd]
      exact go 0 (by rw [ht]; rfl)
    | true =>
      rw [if_pos rfl, p_m6, if_neg (p_in (by omega) (by omega)), p_ix _ (by omega), hne a e (by omega) (by omega), p_Jadd]
      exact go (nw e a) (by rw [ht]; rfl)
theorem r_w0 (he : k_env n w put vb vw) {v_mnea : Nat → Int64} (hne : ∀ b k, b < 6 → k < 6 → v_mnea (6 * b + k) = p_J (nw k b)) {v_mwor : Nat → Int64} (hwo : ∀ k, k < n → v_mwor k = p_J (wo k)) : ∀ d m e : Nat, ∀ x : Int, e + d = n → 10 * d < m → f_Model_row_cut N 6 6 36 6 vst vpi (p_I n) vle vmo hp c2 c3 c4 c5 vw v_mwor v_mnea vb m 0 (p_J x) (p_I e) 0 c1 = some (p_J (x + ww_su (fun a => (if ww_ip put a = true then wo a else 0) + ww_su (fun b => if ww_tch w put b a = true then nw b a else 0) a 0) d e), c1)
  | 0, m + 1, e, x, h, _ => by
    have hn := he.1
    rw [f_Model_row_cut_0, if_pos (by rw [p_Ile] <;> omega)]
    simp [ww_su]
  | d + 1, m + 1, e, x, h, hm => by
    have hn := he.1
    have go : ∀ y : Int, y = (if ww_ip put e = true then wo e else 0) → f_Model_row_cut N 6 6 36 6 vst vpi (p_I n) vle vmo hp c2 c3 c4 c5 vw v_mwor v_mnea vb m 1 (p_J (x + y)) (p_I e) 0 c1 = some (p_J (x + ww_su (fun a => (if ww_ip put a = true then wo a else 0) + ww_su (fun b => if ww_tch w put b a = true then nw b a else 0) a 0) (d + 1) e), c1) := by
      intro y hy
      obtain ⟨m', q1, q2⟩ := r_w1 (N := N) (nw := nw) c1 vst vpi vle vmo hp c2 c3 c4 c5 he hne v_mwor (a := e) (by omega) e m 0 (x + y) (by omega) (by omega)
      have q1' : f_Model_row_cut N 6 6 36 6 vst vpi (p_I n) vle vmo hp c2 c3 c4 c5 vw v_mwor v_mnea vb m 1 (p_J (x + y)) (p_I e) 0 c1 = _ := q1
      rw [q1', r_w0 he hne hwo d m' (e + 1) _ (by omega) (by omega), hy]
      show _ = some (p_J (x + (((if ww_ip put e = true then wo e else 0) + ww_su (fun b => if ww_tch w put b e = true then nw b e else 0) e 0) + ww_su (fun a => (if ww_ip put a = true then wo a else 0) + ww_su (fun b => if ww_tch w put b a = true then nw b a else 0) a 0) d (e + 1))), c1)
      congr 3
      omega
    rw [f_Model_row_cut_0, if_neg (by rw [p_Ile] <;> omega), r_ip c1 vst vpi (p_I n) vle vmo hp c2 c3 c4 c5 he (by omega)]
    simp only [Option.bind]
    cases ht : ww_ip put e with
    | false =>
      rw [if_neg (by decide), p_J0, p_Jadd]
      exact go 0 (by rw [ht]; rfl)
    | true =>
      rw [if_pos rfl, if_neg (p_in (by omega) (by omega)), p_ix _ (by omega), hwo e (by omega), p_Jadd]
      exact go (wo e) (by rw [ht]; rfl)
end
section
variable {N : Nat} {S pc : Nat} {pp : Nat → Int} {free : Nat → Bool} {ws wp : Int32} {v_wfree v_wpip : Nat → Int32} {ms mp : Int32} {v_mfree v_mpip : Nat → Int32}
  {n : Nat} {w : Nat → Nat} {need : Nat → Int} {wo co : Nat → Int} {vn : Int32} {v_iwid v_inee v_iswi : Nat → Int32} {v_iswo v_isce : Nat → Int64} {mn : Int32} {v_mwid v_mnee : Nat → Int32} {v_mwor v_mcen : Nat → Int64}
  {nw : Nat → Nat → Int} {bar : Nat → Nat → Bool} {v_ibar : Nat → Int32} {v_inea v_mnea : Nat → Int64} {v_mbar : Nat → Int32} {M : Nat} {vms : Int32} {v_mmus : Nat → Int32} {least most : Nat} {fl fm ml mm : Int32} {put : Nat → Int} {v_rbeg v_mput : Nat → Int32}
theorem z_row (hN : 30000 ≤ N) (hi : z_item n w need wo co vn v_iwid v_inee v_iswi v_iswo v_isce mn v_mwid v_mnee v_mwor v_mcen) (hz : z_pair n nw bar v_ibar v_inea v_mnea v_mbar) (hpu : z_put n put v_rbeg v_mput) (tc vms' c1 vst vpi vle vmo : Int32) (hp : Bool) (c2 c3 : Int32) (c4 c5 : Int64) :
    ∃ r, f_RoomFills_row N 6 64 64 6 tc vms' vn v_iwid v_inea v_iswo v_rbeg = some r ∧ f_Model_row N 6 6 36 6 c1 vst vpi mn vle vmo hp c2 c3 c4 c5 v_mwid v_mwor v_mnea v_mput = some (r, 0) := by
  obtain ⟨rfl, rfl, i1, i2, i3, i4, i5, i6, i7, i8⟩ := hi
  obtain ⟨hn, q2, q3, q4, q5, q6, q7⟩ := hz
  have h64 := p_2n n (by omega)
  have e1 : k_env n w put v_rbeg v_iwid := ⟨hn, fun k hk => ⟨(hpu k (by omega)).1, (hpu k (by omega)).2.2.1, (hpu k (by omega)).2.2.2.1, (i1.2 k hk).1, (i1.2 k hk).2.1, (i1.2 k hk).2.2.1⟩⟩
  have e2 : k_env n w put v_mput v_mwid := ⟨hn, fun k hk => ⟨(hpu k (by omega)).2.1, (hpu k (by omega)).2.2.1, (hpu k (by omega)).2.2.2.1, (i2.2 k hk).1, (i2.2 k hk).2.1, (i2.2 k hk).2.2.1⟩⟩
  obtain ⟨q, s1, s2, s3⟩ := k_set (N := N) e1 hN vms'
  have hq : q < 2 ^ n := by
    exact p_sub n (by omega) q s2 (fun k hk hb => by
      rw [s3 k hk, Bool.and_eq_true, decide_eq_true_eq] at hb
      exact hb.1)
  have k1 := k_w0 (N := N) (nw := nw) e1 vms' q6 v_iswo n N 0 (p_sum wo q) (by omega) (by omega)
  have k2 := r_w0 (N := N) (nw := nw) (wo := wo) 0 vst vpi vle vmo hp c2 c3 c4 c5 e2 (fun b k hb hk => (q7 b k hb hk).1) (fun k hk => (i7 k hk).1) n N 0 0 (by omega) (by omega)
  have k2' : f_Model_row_cut N 6 6 36 6 vst vpi (p_I n) vle vmo hp c2 c3 c4 c5 v_mwid v_mwor v_mnea v_mput N 0 0 0 0 0 = _ := k2
  have k1' : f_Row_wholeWorth_cut N 6 64 64 6 vms' (p_I n) v_iwid v_inea v_iswo v_rbeg N 0 (p_J (p_sum wo q)) 0 0 = _ := k1
  refine ⟨p_J (p_sum wo q + ww_su (fun a => ww_su (fun b => if ww_tch w put a b = true then nw a b else 0) (n - (a + 1)) (a + 1)) n 0), ?_, ?_⟩
  · unfold f_RoomFills_row f_Row_wholeWorth
    rw [s1]
    simp only [Option.bind]
    rw [if_neg (p_in (by omega) (by omega)), p_ix q (by omega), (i8 q hq).2.1, k1']
  · unfold f_Model_row
    rw [k2', ww_su_add, ww_su_ps wo (ww_ip put) hn s3, ww_su_sw (fun a b => if ww_tch w put a b = true then nw a b else 0) hn]
    congr 3
    omega
theorem z_check (hN : 30000 ≤ N) (hw : z_wall S pc pp free ws wp v_wfree v_wpip ms mp v_mfree v_mpip) (hi : z_item n w need wo co vn v_iwid v_inee v_iswi v_iswo v_isce mn v_mwid v_mnee v_mwor v_mcen) (hz : z_pair n nw bar v_ibar v_inea v_mnea v_mbar) (hmu : z_must n M vms v_mmus) (hf : z_fil least most fl fm ml mm) (hpu : z_put n put v_rbeg v_mput) (tc c1 : Int32) (hp : Bool) (c2 c3 : Int32) (c4 c5 : Int64) :
    ∃ r, f_RoomFills_check N S 8 6 6 8 6 tc ws wp v_wfree v_wpip vms vn v_iwid v_inee v_ibar fl fm v_rbeg = some r ∧ f_Model_check N 41 8 6 6 6 36 6 c1 ms mp mn ml mm hp c2 c3 c4 c5 v_mfree v_mpip v_mwid v_mnee v_mmus v_mbar v_mput = some (r, 0) := by
  obtain ⟨rfl, rfl, w1, w2, rfl, rfl, w5, w6, w7, w8⟩ := hw
  obtain ⟨rfl, rfl, i1, i2, i3, i4, i5, i6, i7, i8⟩ := hi
  obtain ⟨rfl, m1, m2⟩ := hmu
  obtain ⟨f1, f2, f3, rfl, rfl, rfl, rfl⟩ := hf
  obtain ⟨hn, q2, q3, q4, q5, q6, q7⟩ := hz
  have h64 := p_2n n (by omega)
  have e1 : k_env n w put v_rbeg v_iwid := ⟨hn, fun k hk => ⟨(hpu k (by omega)).1, (hpu k (by omega)).2.2.1, (hpu k (by omega)).2.2.2.1, (i1.2 k hk).1, (i1.2 k hk).2.1, (i1.2 k hk).2.2.1⟩⟩
  have e2 : k_env n w put v_mput v_mwid := ⟨hn, fun k hk => ⟨(hpu k (by omega)).2.1, (hpu k (by omega)).2.2.1, (hpu k (by omega)).2.2.2.1, (i2.2 k hk).1, (i2.2 k hk).2.1, (i2.2 k hk).2.2.1⟩⟩
  have hmus : ∀ k, k < n → (v_mmus k = 0 ↔ Nat.testBit M k = false) := by
    intro k hk
    rw [m2 k (by omega)]
    cases Nat.testBit M k <;> decide
  have c_1 := k_off_cut (N := N) e1 w2 (p_I pc) (p_I M) n N 0 (by omega) (by omega)
  have c_2 := k_sh0 (N := N) e1 (p_I M) n N 0 (by omega) (by omega)
  have c_3 := k_fr_cut (N := N) e1 hN w2 w7 (p_I pc) (p_I M) S N 0 (by omega) (by omega)
  obtain ⟨q, s1, s2, s3⟩ := k_set (N := N) e1 hN (p_I M)
  have c_5 := k_nm_cut (N := N) e1 hN (p_I S) (p_I M) w5 i1 n N 0 (by omega) (by omega)
  have c_6 := k_bt0 (N := N) e1 q5 (p_I M) n N 0 (by omega) (by omega)
  have c_7 := k_gap_cut (N := N) e1 hN w2 w7 (p_I pc) (p_I M) f2 f3 S N 0 0 (by omega) (by omega) (by omega)
  have g7 := r_g0 (N := N) 0 (p_I pc) hp c2 c3 c4 c5 v_mfree e2 w2 w8 ⟨f1, f2⟩ f3 S N 0 0 false (by omega) (by omega) (by omega)
  have chain : ∀ x : Int32, f_Model_check_cut N 41 8 6 6 6 36 6 (p_I S) (p_I pc) (p_I n) (p_I least) (p_I most) hp c2 c3 c4 c5 v_mfree v_mpip v_mwid v_mnee v_mmus v_mbar v_mput N 0 x 0 0 0 = some ((if ww_any (ww_off S w put) n 0 = true then 1 else if ww_any (fun a => ww_any (fun b => ww_shr w put a b) a 0) n 0 = true then 2 else if ww_any (fun s => ww_any (fun k => free s && ww_cov w put k s) n 0) S 0 = true then 3 else if ww_any (fun k => Nat.testBit M k && !(ww_ip put k)) n 0 = true then 4 else if ww_any (ww_nm pc pp w need put) n 0 = true then 5 else if ww_any (fun a => ww_any (fun b => ww_tch w put a b && bar b a) a 0) n 0 = true then 6 else x), 0) := by
    intro x
    obtain ⟨m1, a1, b1⟩ := r_c0 (N := N) (S := S) (pc := pc) (bar := bar) 0 (p_I least) (p_I most) hp c2 c3 c4 c5 v_mfree v_mpip v_mnee v_mmus v_mbar e2 (fun b k hb hk => (q7 b k hb hk).2) n N 0 x (by omega) (by omega)
    obtain ⟨m2, a2, b2⟩ := r_c2 (N := N) (S := S) (pp := pp) (need := need) 0 (p_I least) (p_I most) hp c2 c3 c4 c5 v_mfree v_mpip v_mnee v_mmus v_mbar hN e2 w6 i2 n m1 0 (if ww_any (fun a => ww_any (fun b => ww_tch w put a b && bar b a) a 0) n 0 = true then 6 else x) (by omega) (by omega)
    obtain ⟨m3, a3, b3⟩ := r_c3 (N := N) (S := S) (pc := pc) (M := M) 0 (p_I least) (p_I most) hp c2 c3 c4 c5 v_mfree v_mpip v_mnee v_mmus v_mbar e2 hmus n m2 0 (if ww_any (ww_nm pc pp w need put) n 0 = true then 5 else (if ww_any (fun a => ww_any (fun b => ww_tch w put a b && bar b a) a 0) n 0 = true then 6 else x)) (by omega) (by omega)
    obtain ⟨m4, a4, b4⟩ := r_c4 (N := N) (S := S) (pc := pc) (free := free) 0 (p_I least) (p_I most) hp c2 c3 c4 c5 v_mfree v_mpip v_mnee v_mmus v_mbar e2 w2 w8 S m3 0 (if ww_any (fun k => Nat.testBit M k && !(ww_ip put k)) n 0 = true then 4 else (if ww_any (ww_nm pc pp w need put) n 0 = true then 5 else (if ww_any (fun a => ww_any (fun b => ww_tch w put a b && bar b a) a 0) n 0 = true then 6 else x))) (by omega) (by omega)
    obtain ⟨m5, a5, b5⟩ := r_c6 (N := N) (S := S) (pc := pc) 0 (p_I least) (p_I most) hp c2 c3 c4 c5 v_mfree v_mpip v_mnee v_mmus v_mbar e2 n m4 0 (if ww_any (fun s => ww_any (fun k => free s && ww_cov w put k s) n 0) S 0 = true then 3 else (if ww_any (fun k => Nat.testBit M k && !(ww_ip put k)) n 0 = true then 4 else (if ww_any (ww_nm pc pp w need put) n 0 = true then 5 else (if ww_any (fun a => ww_any (fun b => ww_tch w put a b && bar b a) a 0) n 0 = true then 6 else x)))) (by omega) (by omega)
    have a6 := r_c8 (N := N) (S := S) (pc := pc) 0 (p_I least) (p_I most) hp c2 c3 c4 c5 v_mfree v_mpip v_mnee v_mmus v_mbar e2 w2 n m5 0 (if ww_any (fun a => ww_any (fun b => ww_shr w put a b) a 0) n 0 = true then 2 else (if ww_any (fun s => ww_any (fun k => free s && ww_cov w put k s) n 0) S 0 = true then 3 else (if ww_any (fun k => Nat.testBit M k && !(ww_ip put k)) n 0 = true then 4 else (if ww_any (ww_nm pc pp w need put) n 0 = true then 5 else (if ww_any (fun a => ww_any (fun b => ww_tch w put a b && bar b a) a 0) n 0 = true then 6 else x))))) (by omega) (by omega)
    exact a1.trans (a2.trans (a3.trans (a4.trans (a5.trans a6))))
  have r2 := ww_pairs n (fun a b => ww_shr w put a b) (fun a b => ww_shr w put a b) (fun a b => ww_shr_sym w put a b)
  have r6 := ww_pairs n (fun a b => bar a b && ww_tch w put a b) (fun a b => ww_tch w put a b && bar b a) (fun a b => by rw [Bool.and_comm, ww_tch_sym])
  have r3 : ww_any (fun s => ww_any (fun k => free s && ww_cov w put k s) n 0) S 0 = ww_any (fun s => free s && ww_cvd n w put s) S 0 := ww_any_congr S 0 (fun s _ _ => ww_any_and (free s) (fun k => ww_cov w put k s) n 0)
  have r4 : ww_any (fun k => Nat.testBit M k && !(ww_ip put k)) n 0 = ww_any (fun k => Nat.testBit M k && !(Nat.testBit q k)) n 0 := ww_any_congr n 0 (fun k _ hk => by rw [s3 k (by omega), decide_eq_true (by omega), Bool.true_and])
  have hmu := p_mu n (by omega) M (by omega) m1 q s2
  have hdf := p_d0 M (by omega) q s2
  refine ⟨(if ww_any (ww_off S w put) n 0 = true then 1 else if ww_any (fun a => ww_any (fun b => ww_shr w put a b) a 0) n 0 = true then 2 else if ww_any (fun s => ww_any (fun k => free s && ww_cov w put k s) n 0) S 0 = true then 3 else if ww_any (fun k => Nat.testBit M k && !(ww_ip put k)) n 0 = true then 4 else if ww_any (ww_nm pc pp w need put) n 0 = true then 5 else if ww_any (fun a => ww_any (fun b => ww_tch w put a b && bar b a) a 0) n 0 = true then 6 else if ww_gp free n w put least most S 0 0 = true then 7 else 0), ?_, ?_⟩
  · have c_1' : f_Row_someIsOffTheWall N 6 6 (p_I S) (p_I pc) (p_I M) (p_I n) v_iwid v_rbeg = _ := c_1
    have c_2' : f_Row_someShareAStep N 6 6 (p_I M) (p_I n) v_iwid v_rbeg = _ := c_2
    have c_3' : f_Row_someIsOnAFreeStep N S 6 6 (p_I S) (p_I pc) v_wfree (p_I M) (p_I n) v_iwid v_rbeg = _ := c_3
    have c_5' : f_Row_someNeedIsNotMet N 8 6 6 6 (p_I S) (p_I pc) v_wpip (p_I M) (p_I n) v_iwid v_inee v_rbeg = _ := c_5
    have c_6' : f_Row_someBarredTouch N 6 8 6 (p_I M) (p_I n) v_iwid v_ibar v_rbeg = _ := c_6
    have c_7' : f_Row_someGapIsNoFiller N S 6 6 (p_I S) (p_I pc) v_wfree (p_I M) (p_I n) v_iwid (p_I least) (p_I most) v_rbeg = _ := c_7
    rw [r3, r4, ← r2, ← r6]
    unfold f_RoomFills_check f_Row_firstBrokenRule
    rw [c_1', c_2', c_3', s1, c_5', c_6', c_7']
    simp only [Option.bind]
    rw [p_dif M (by omega) q s2]
    cases ww_any (ww_off S w put) n 0 with
    | true => rfl
    | false =>
      cases ww_any (fun a => ww_any (fun b => ww_shr w put a b) (n - (a + 1)) (a + 1)) n 0 with
      | true => rfl
      | false =>
        cases ww_any (fun s => free s && ww_cvd n w put s) S 0 with
        | true => rfl
        | false =>
          simp only [Bool.false_eq_true, if_false]
          by_cases c : p_df M q = 0
          · have hz := hmu.1 c
            unfold ww_mu at hz
            rw [Bool.not_eq_true'] at hz
            rw [if_pos (by rw [show (M &&& (63 ^^^ q)) = p_df M q from rfl, c]; rfl), hz]
            simp only [Bool.false_eq_true, if_false]
            cases ww_any (ww_nm pc pp w need put) n 0 with
            | true => rfl
            | false =>
              cases ww_any (fun a => ww_any (fun b => bar a b && ww_tch w put a b) (n - (a + 1)) (a + 1)) n 0 with
              | true => rfl
              | false => cases ww_gp free n w put least most S 0 0 <;> rfl
          · have hz : ww_any (fun k => Nat.testBit M k && !(Nat.testBit q k)) n 0 = true := by
              cases hh : ww_any (fun k => Nat.testBit M k && !(Nat.testBit q k)) n 0 with
              | true => rfl
              | false => exact absurd (hmu.2 (by unfold ww_mu; rw [hh]; rfl)) c
            rw [if_neg (by rw [show (M &&& (63 ^^^ q)) = p_df M q from rfl, p_0, p_Ieq] <;> omega), hz]
            rfl
  · unfold f_Model_check f_Model_hasGap
    have g7' : f_Model_hasGap_cut N 41 6 6 0 (p_I S) (p_I pc) (p_I n) (p_I least) (p_I most) hp c2 c3 c4 c5 v_mfree v_mwid v_mput N 0 0 false 0 false 0 = some (false || ww_gp free n w put least most S 0 0) := g7
    rw [g7', Bool.false_or, chain 7, chain 0]
    simp only [Option.bind]
    cases ww_gp free n w put least most S 0 0 <;> rfl
end
