theorem p_2n : ∀ n : Nat, n < 7 → 2 ^ n ≤ 64 := by decide
theorem t_step_cut (N S : Nat) (hN : 30000 ≤ N) (vms : Int32) (n pc : Nat) (nwp : Nat) (free : Nat → Bool) (w : Nat → Nat) (met : Nat → Nat → Bool) (nw : Nat → Nat → Int) (bar : Nat → Nat → Bool) (least most : Nat) (vpc : Int32) (v_wfree v_wpip v_inee : Nat → Int32) (v_iwid v_ibar : Nat → Int32) (v_inea : Nat → Int64) (v_iswi : Nat → Int32) (v_tfit v_tlon : Nat → Int32) (hc : t_cls n nw bar v_ibar v_inea) (hw : ∀ k, k < n → v_iwid k = p_I (w k) ∧ 1 ≤ w k ∧ w k ≤ 20) (hw20 : ∀ k, w k ≤ 20) (hsw : ∀ s, s < 2 ^ n → v_iswi s = p_I (p_sum (fun k => (w k : Int)) s)) (hle : 1 ≤ least ∧ least ≤ 40) (hmo : most ≤ 40) (hS : S ≤ 40) {a : Nat} (ha : a < S) (hfa : free a = false) {fs : Nat} (hfs : fs < 64) (hfsb : ∀ k, k < 6 → Nat.testBit fs k = (decide (k < n) && (decide (w k ≤ ww_op free (S - a) a) && met k a))) (hft : v_tfit a = p_I fs) (hlo : v_tlon a = p_I ((min most (ww_op free (S - a) a) : Nat) : Int)) (x3 : Int32) :
    ∀ d m e : Nat, ∀ (v : Nat → Int64) (T : Nat → Nat → Nat → Int), e + d = 2 ^ n → d < m → t_tb S v T → (∀ a' l' b', a < a' → a' ≤ S → l' < 64 → b' < 8 → ww_V S n free w met nw bar least most a' l' b' (T a' l' b')) → (∀ l b, l < e → l < 64 → b < 8 → ww_V S n free w met nw bar least most a l b (T a l b)) → (∀ l b, e ≤ l → l < 64 → b < 8 → T a l b = -1) →
    ∃ v' T', f_Table_fillStep_cut N S nwp 6 6 8 64 64 ((S + 1) * 512) S S (p_I S) vpc v_wfree v_wpip vms (p_I n) v_iwid v_inee v_ibar v_inea v_iswi (p_I least) (p_I most) m 0 (p_I a) (p_I (ww_rm free (S - a) a)) x3 (p_I e) v v_tfit v_tlon = some (v', v_tfit, v_tlon) ∧ t_tb S v' T' ∧ (∀ a' l b, a' ≠ a → T' a' l b = T a' l b) ∧ (∀ l b, l < 64 → b < 8 → ww_V S n free w met nw bar least most a l b (T' a l b))
  | 0, m + 1, e, v, T, h, _, hv, hV, h1, h2 => by
    have hn := hc.1
    have h64 : 2 ^ n ≤ 64 := p_2n n (by omega)
    refine ⟨v, T, ?_, hv, fun _ _ _ _ => rfl, ?_⟩
    · rw [f_Table_fillStep_cut_0, p_bit n (by omega), if_pos (by rw [p_Ile] <;> omega)]
    · intro l b hl hb
      by_cases c : l < e
      · exact h1 l b c hl hb
      · rw [h2 l b (by omega) hl hb]
        refine Or.inl ⟨rfl, ?_⟩
        rintro x ⟨q, hq⟩
        have := ww_W_lt S n free w met nw bar least most hn q _ _ _ _ hq hl
        omega
  | d + 1, m + 1, e, v, T, h, hm, hv, hV, h1, h2 => by
    have hn := hc.1
    have h64 : 2 ^ n ≤ 64 := p_2n n (by omega)
    have s1 := p_sum_nn (fun k => (w k : Int)) (fun k => Int.natCast_nonneg _) e
    have s2 := p_sum_le (fun k => (w k : Int)) 20 (by omega) (fun k => by have := hw20 k; omega) e
    have s3 := ww_rm_le free (S - a) a
    rw [f_Table_fillStep_cut_0, p_bit n (by omega), if_neg (by rw [p_Ile] <;> omega), if_neg (p_in (by omega) (by omega)), p_ix e (by omega), hsw e (by omega), p_up]
    by_cases c : (ww_rm free (S - a) a : Int) < p_sum (fun k => (w k : Int)) e
    · rw [if_pos (by rw [p_Ilt] <;> omega)]
      refine t_step_cut N S hN vms n pc nwp free w met nw bar least most vpc v_wfree v_wpip v_inee v_iwid v_ibar v_inea v_iswi v_tfit v_tlon hc hw hw20 hsw hle hmo hS ha hfa hfs hfsb hft hlo x3 d m (e + 1) v T (by omega) (by omega) hv hV ?_ ?_
      · intro l b hl hl2 hb
        by_cases cl : l = e
        · subst cl
          rw [h2 l b (Nat.le_refl _) hl2 hb]
          refine Or.inl ⟨rfl, ?_⟩
          rintro x ⟨q, hq⟩
          have := ww_W_rm S n free w met nw bar least most hn q _ _ _ _ hl2 hq
          omega
        · exact h1 l b (by omega) hl2 hb
      · intro l b hl hl2 hb
        exact h2 l b (by omega) hl2 hb
    · rw [if_neg (by rw [p_Ilt] <;> omega)]
      obtain ⟨v1, g1, k1, k2, k3⟩ := t_cellV N S hN vms v_tlon n free w met nw bar least most v_iwid v_ibar v_inea v_tfit hc hw hle hmo T v hv hS (l := e) ha hfa (by omega) hfs hfsb hft hlo hV
      rw [k1]
      simp only [Option.bind]
      obtain ⟨v2, T2, j1, j2, j3, j4⟩ := t_step_cut N S hN vms n pc nwp free w met nw bar least most vpc v_wfree v_wpip v_inee v_iwid v_ibar v_inea v_iswi v_tfit v_tlon hc hw hw20 hsw hle hmo hS ha hfa hfs hfsb hft hlo x3 d m (e + 1) v1 (t_row T a e g1) (by omega) (by omega) k2 (by
        intro a' l' b' q1 q2 q3 q4
        rw [t_row_off T g1 l' b' (by omega)]
        exact hV a' l' b' q1 q2 q3 q4) (by
        intro l b hl hl2 hb
        by_cases cl : l = e
        · subst cl
          rw [t_row_on]
          exact k3 b hb
        · rw [t_row_off2 T g1 a b cl]
          exact h1 l b (by omega) hl2 hb) (by
        intro l b hl hl2 hb
        rw [t_row_off2 T g1 a b (by omega)]
        exact h2 l b (by omega) hl2 hb)
      refine ⟨v2, T2, j1, j2, ?_, j4⟩
      intro a' l b hne
      rw [j3 a' l b hne, t_row_off T g1 l b hne]
theorem t_stepV (N S : Nat) (hN : 30000 ≤ N) (vms : Int32) (n pc : Nat) (pp : Nat → Int) (free : Nat → Bool) (w : Nat → Nat) (need : Nat → Int) (nw : Nat → Nat → Int) (bar : Nat → Nat → Bool) (least most : Nat) (v_wfree v_wpip v_inee : Nat → Int32) (v_iwid v_ibar : Nat → Int32) (v_inea : Nat → Int64) (v_iswi : Nat → Int32) (v_tfit v_tlon : Nat → Int32) (hfr : ∀ k, k < S → (v_wfree k = 0 ↔ free k = false)) (hp : t_pip pc pp v_wpip) (hi : t_nee n w need v_iwid v_inee) (hc : t_cls n nw bar v_ibar v_inea) (hw20 : ∀ k, w k ≤ 20) (hsw : ∀ s, s < 2 ^ n → v_iswi s = p_I (p_sum (fun k => (w k : Int)) s)) (hle : 1 ≤ least ∧ least ≤ 40) (hmo : most ≤ 40) (hS : S ≤ 40) {a : Nat} (ha : a < S) (hfa : free a = false) (v : Nat → Int64) (T : Nat → Nat → Nat → Int) (hv : t_tb S v T) (hV : ∀ a' l' b', a < a' → a' ≤ S → l' < 64 → b' < 8 → ww_V S n free w (fun k q => ww_met pc pp w need k q) nw bar least most a' l' b' (T a' l' b')) (h2 : ∀ l b, l < 64 → b < 8 → T a l b = -1) :
    ∃ v' T' fs, f_Table_fillStep N S 8 6 6 8 64 64 ((S + 1) * 512) S S (p_I S) (p_I pc) v_wfree v_wpip vms (p_I n) v_iwid v_inee v_ibar v_inea v_iswi (p_I least) (p_I most) v v_tfit v_tlon (p_I a) (p_I (ww_rm free (S - a) a)) = some (v', upd v_tfit a (p_I (fs : Nat)), upd v_tlon a (p_I ((min most (ww_op free (S - a) a) : Nat) : Int))) ∧ t_tb S v' T' ∧ (∀ a' l b, a' ≠ a → T' a' l b = T a' l b) ∧ (∀ l b, l < 64 → b < 8 → ww_V S n free w (fun k q => ww_met pc pp w need k q) nw bar least most a l b (T' a l b)) ∧ fs < 64 ∧ (∀ k, k < 6 → Nat.testBit fs k = (decide (k < n) && (decide (w k ≤ ww_op free (S - a) a) && ww_met pc pp w need k a))) := by
  have hop := ww_op_le free (S - a) a
  have hn := hc.1
  have h64 : 2 ^ n ≤ 64 := p_2n n (by omega)
  obtain ⟨fs, f1, f2, f3⟩ := t_fit N hN (p_I S) vms n pc pp w need v_wpip v_iwid v_inee hp hi (a := a) (by omega) (op := ww_op free (S - a) a) (by omega)
  obtain ⟨v2, T2, j1, j2, j3, j4⟩ := t_step_cut N S hN vms n pc 8 free w (fun k q => ww_met pc pp w need k q) nw bar least most (p_I pc) v_wfree v_wpip v_inee v_iwid v_ibar v_inea v_iswi (upd v_tfit a (p_I fs)) (upd v_tlon a (p_I ((min most (ww_op free (S - a) a) : Nat) : Int))) hc (fun k hk => ⟨(hi.2 k hk).1, (hi.2 k hk).2.1, (hi.2 k hk).2.2.1⟩) hw20 hsw hle hmo hS ha hfa f2 f3 (by rw [p_u, if_pos rfl]) (by rw [p_u, if_pos rfl]) (p_I (ww_op free (S - a) a)) (2 ^ n) N 0 v T (by omega) (by omega) hv hV (fun l b h => by omega) (fun l b _ h3 h4 => h2 l b h3 h4)
  refine ⟨v2, T2, fs, ?_, j2, j3, j4, f2, f3⟩
  unfold f_Table_fillStep
  rw [t_sbf N S (p_I pc) free v_wfree hS hfr hN (by omega)]
  simp only [Option.bind]
  rw [f1]
  simp only [Option.bind]
  rw [if_neg (p_in ha (by omega)), if_neg (p_in ha (by omega)), p_ix a (by omega)]
  have e : (if p_I (ww_op free (S - a) a) < p_I most then p_I (ww_op free (S - a) a) else p_I most) = p_I ((min most (ww_op free (S - a) a) : Nat) : Int) := by
    by_cases c : ww_op free (S - a) a < most
    · rw [if_pos (by rw [p_Ilt] <;> omega)]; congr 2; omega
    · rw [if_neg (by rw [p_Ilt] <;> omega)]; congr 2; omega
  rw [e]
  exact j1

theorem t_pass_cut1 (N S : Nat) (vms vn : Int32) (T : Nat → Nat → Nat → Int) (hS : S ≤ 40) {a l : Nat} (ha : a < S) (hl : l < 64) {z : Int} (hz : -1 ≤ z) (hz2 : z ≤ 5000000) (g : Nat → Int) :
    ∀ d m e : Nat, ∀ (v : Nat → Int64), e + d = 8 → d < m → t_tb S v (t_row T a l (fun b => if b < e then z else g b)) →
    ∃ v' m', f_Table_passOver_cut N ((S + 1) * 512) vms vn m 1 (p_I a) (p_I l) (p_J z) (p_I e) v = f_Table_passOver_cut N ((S + 1) * 512) vms vn m' 0 (p_I a) (p_I ((l + 1 : Nat) : Int)) 0 0 v' ∧ m = m' + d + 1 ∧ t_tb S v' (t_row T a l (fun _ => z))
  | 0, m + 1, e, v, h, _, hv => by
    refine ⟨v, m, ?_, by omega, ?_⟩
    · rw [f_Table_passOver_cut_1, if_pos (by rw [p_8, p_Ile] <;> omega), p_up]
    · exact t_tb_congr (fun b hb => if_pos (by omega)) hv
  | d + 1, m + 1, e, v, h, hm, hv => by
    obtain ⟨v', m', h1, h2, h3⟩ := t_pass_cut1 N S vms vn T hS ha hl hz hz2 g d m (e + 1) (vp_updL v ((a * 64 + l) * 8 + e) (p_J z)) (by omega) (by omega) (t_tb_congr (fun b hb => by
        by_cases cb : b = e
        · rw [if_pos cb, if_pos (show b < e + 1 by omega)]
        · rw [if_neg cb]
          by_cases cc : b < e
          · rw [if_pos cc, if_pos (show b < e + 1 by omega)]
          · rw [if_neg cc, if_neg (show ¬ b < e + 1 by omega)]) (t_tb_upd hl (by omega) (by omega) (by omega) hv))
    refine ⟨v', m', ?_, by omega, h3⟩
    rw [f_Table_passOver_cut_1, if_neg (by rw [p_8, p_Ile] <;> omega)]
    unfold f_Table_cell
    simp only [Option.bind]
    rw [p_cell, if_neg (p_in (by omega) (by omega)), p_ix _ (by omega), p_up]
    exact h1
theorem t_pass_cut0 (N S : Nat) (vms : Int32) (n : Nat) (hn : n ≤ 6) (hS : S ≤ 40) {a : Nat} (ha : a < S) :
    ∀ d m e : Nat, ∀ (v : Nat → Int64) (T : Nat → Nat → Nat → Int), e + d = 2 ^ n → 10 * d < m → t_tb S v T →
    ∃ v' T', f_Table_passOver_cut N ((S + 1) * 512) vms (p_I n) m 0 (p_I a) (p_I e) 0 0 v = some v' ∧ t_tb S v' T' ∧ (∀ a' l b, a' ≠ a → T' a' l b = T a' l b) ∧ (∀ l b, e ≤ l → l < 2 ^ n → T' a l b = T (a + 1) l 7) ∧ (∀ l b, ¬ (e ≤ l ∧ l < 2 ^ n) → T' a l b = T a l b)
  | 0, m + 1, e, v, T, h, _, hv => by
    have h64 : 2 ^ n ≤ 64 := p_2n n (by omega)
    refine ⟨v, T, ?_, hv, fun _ _ _ _ => rfl, fun l b h1 h2 => by omega, fun _ _ _ => rfl⟩
    rw [f_Table_passOver_cut_0, p_bit n (by omega), if_pos (by rw [p_Ile] <;> omega)]
  | d + 1, m + 1, e, v, T, h, hm, hv => by
    have h64 : 2 ^ n ≤ 64 := p_2n n (by omega)
    have hb := (hv (a + 1) e 7 (by omega) (by omega) (by omega)).2
    obtain ⟨v1, m1, c1, c2, c3⟩ := t_pass_cut1 N S vms (p_I n) T hS (a := a) (l := e) ha (by omega) (z := T (a + 1) e 7) hb.1 hb.2 (T a e) 8 m 0 v (by omega) (by omega) (t_tb_congr (fun b _ => (if_neg (by omega)).symm) (t_tb_self a e hv))
    obtain ⟨v2, T2, d1, d2, d3, d4, d5⟩ := t_pass_cut0 N S vms n hn hS ha d m1 (e + 1) v1 _ (by omega) (by omega) c3
    refine ⟨v2, T2, ?_, d2, ?_, ?_, ?_⟩
    · rw [f_Table_passOver_cut_0, p_bit n (by omega), if_neg (by rw [p_Ile] <;> omega), p_up, p_7, show (7 : Int) = ((7 : Nat) : Int) from rfl, t_val N hv hS (by omega) (by omega) (by omega)]
      exact c1.trans d1
    · intro a' l b hne
      rw [d3 a' l b hne, t_row_off T _ l b hne]
    · intro l b h1 h2
      by_cases c : l = e
      · subst c
        rw [d5 l b (by omega), t_row_on]
      · rw [d4 l b (by omega) h2, t_row_off T _ l 7 (by omega)]
    · intro l b h1
      rw [d5 l b (by omega), t_row_off2 T _ a b (by omega)]
theorem t_passV (N S : Nat) (hN : 30000 ≤ N) (vms : Int32) (n : Nat) (free : Nat → Bool) (w : Nat → Nat) (met : Nat → Nat → Bool) (nw : Nat → Nat → Int) (bar : Nat → Nat → Bool) (least most : Nat) (hn : n ≤ 6) (hS : S ≤ 40) {a : Nat} (ha : a < S) (hfa : free a = true) (v : Nat → Int64) (T : Nat → Nat → Nat → Int) (hv : t_tb S v T) (hV : ∀ a' l' b', a < a' → a' ≤ S → l' < 64 → b' < 8 → ww_V S n free w met nw bar least most a' l' b' (T a' l' b')) (h2 : ∀ l b, l < 64 → b < 8 → T a l b = -1) :
    ∃ v' T', f_Table_passOver N ((S + 1) * 512) vms (p_I n) v (p_I a) = some v' ∧ t_tb S v' T' ∧ (∀ a' l b, a' ≠ a → T' a' l b = T a' l b) ∧ (∀ l b, l < 64 → b < 8 → ww_V S n free w met nw bar least most a l b (T' a l b)) := by
  have h64 : 2 ^ n ≤ 64 := p_2n n (by omega)
  obtain ⟨v2, T2, d1, d2, d3, d4, d5⟩ := t_pass_cut0 N S vms n hn hS ha (2 ^ n) N 0 v T (by omega) (by omega) hv
  refine ⟨v2, T2, ?_, d2, d3, ?_⟩
  · unfold f_Table_passOver
    exact d1
  · intro l b hl hb
    by_cases c : l < 2 ^ n
    · rw [d4 l b (by omega) c]
      exact (ww_sup_iff (fun x => ww_Y_free S n free w met nw bar least most ha hfa b l x) _).2 (hV (a + 1) l 7 (by omega) (by omega) hl (by omega))
    · rw [d5 l b (by omega), h2 l b hl hb]
      refine Or.inl ⟨rfl, ?_⟩
      rintro x ⟨q, hq⟩
      have := ww_W_lt S n free w met nw bar least most hn q _ _ _ _ hq hl
      omega
