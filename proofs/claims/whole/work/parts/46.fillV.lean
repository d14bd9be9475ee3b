def ww_ff (S n : Nat) (free : Nat → Bool) (w : Nat → Nat) (met : Nat → Nat → Bool) (most : Nat) (vf vl : Nat → Int32) (a : Nat) : Prop :=
  (∃ fs : Nat, fs < 64 ∧ vf a = p_I fs ∧ ∀ k, k < 6 → Nat.testBit fs k = (decide (k < n) && (decide (w k ≤ ww_op free (S - a) a) && met k a))) ∧ vl a = p_I ((min most (ww_op free (S - a) a) : Nat) : Int)
theorem t_fill_cut1 (N S : Nat) (hN : 30000 ≤ N) (vms : Int32) (n pc : Nat) (pp : Nat → Int) (free : Nat → Bool) (w : Nat → Nat) (need : Nat → Int) (nw : Nat → Nat → Int) (bar : Nat → Nat → Bool) (least most : Nat) (v_wfree v_wpip v_inee : Nat → Int32) (v_iwid v_ibar : Nat → Int32) (v_inea : Nat → Int64) (v_iswi : Nat → Int32) (hfr : ∀ k, k < S → (v_wfree k = 0 ↔ free k = false)) (hp : t_pip pc pp v_wpip) (hi : t_nee n w need v_iwid v_inee) (hc : t_cls n nw bar v_ibar v_inea) (hw20 : ∀ k, w k ≤ 20) (hsw : ∀ s, s < 2 ^ n → v_iswi s = p_I (p_sum (fun k => (w k : Int)) s)) (hle : 1 ≤ least ∧ least ≤ 40) (hmo : most ≤ 40) (hS : S ≤ 40) :
    ∀ a m : Nat, ∀ (v : Nat → Int64) (T : Nat → Nat → Nat → Int) (vf vl : Nat → Int32), a ≤ S → a < m → t_tb S v T → (∀ a' l b, a ≤ a' → a' ≤ S → l < 64 → b < 8 → ww_V S n free w (fun k q => ww_met pc pp w need k q) nw bar least most a' l b (T a' l b)) → (∀ a' l b, a' < a → l < 64 → b < 8 → T a' l b = -1) → (∀ a', a ≤ a' → a' < S → free a' = false → ww_ff S n free w (fun k q => ww_met pc pp w need k q) most vf vl a') →
    ∃ v' T' vf' vl', f_Table_fill_cut N S 8 6 6 8 64 64 ((S + 1) * 512) S S (p_I S) (p_I pc) v_wfree v_wpip vms (p_I n) v_iwid v_inee v_ibar v_inea v_iswi (p_I least) (p_I most) m 1 (p_I (ww_rm free (S - a) a)) (p_I ((a : Int) - 1)) v vf vl = some (v', vf', vl') ∧ t_tb S v' T' ∧ (∀ a' l b, a' ≤ S → l < 64 → b < 8 → ww_V S n free w (fun k q => ww_met pc pp w need k q) nw bar least most a' l b (T' a' l b)) ∧ (∀ a', a' < S → free a' = false → ww_ff S n free w (fun k q => ww_met pc pp w need k q) most vf' vl' a')
  | 0, m + 1, v, T, vf, vl, _, _, hv, hV, h2, hff => by
    refine ⟨v, T, vf, vl, ?_, hv, fun a' l b h => hV a' l b (by omega) h, fun a' h => hff a' (by omega) h⟩
    rw [f_Table_fill_cut_1, if_pos (by rw [p_0, p_Ilt] <;> omega)]
  | a + 1, m + 1, v, T, vf, vl, ha, hm, hv, hV, h2, hff => by
    have hx : ((a + 1 : Nat) : Int) - 1 = (a : Int) := by omega
    have hx2 : p_I (a : Int) + (-1) = p_I ((a : Int) - 1) := by rw [p_m1, p_Iadd]; rfl
    have hrm : ww_rm free (S - a) a = (if free a = true then 0 else 1) + ww_rm free (S - (a + 1)) (a + 1) := by
      rw [show S - a = (S - (a + 1)) + 1 by omega]; rfl
    rw [hx, f_Table_fill_cut_1, if_neg (by rw [p_0, p_Ilt] <;> omega), if_neg (p_in (by omega) (by omega)), p_ix a (by omega), hx2]
    by_cases c : free a = true
    · rw [if_neg (by rw [hfr a (by omega), c]; decide)]
      obtain ⟨v1, T1, k1, k2, k3, k4⟩ := t_passV N S hN vms n free w (fun k q => ww_met pc pp w need k q) nw bar least most hc.1 hS (a := a) (by omega) c v T hv (fun a' l b q1 q2 q3 q4 => hV a' l b (by omega) q2 q3 q4) (fun l b q1 q2 => h2 a l b (by omega) q1 q2)
      rw [k1]
      simp only [Option.bind]
      rw [if_pos c, Nat.zero_add] at hrm
      rw [← hrm]
      refine t_fill_cut1 N S hN vms n pc pp free w need nw bar least most v_wfree v_wpip v_inee v_iwid v_ibar v_inea v_iswi hfr hp hi hc hw20 hsw hle hmo hS a m v1 T1 vf vl (by omega) (by omega) k2 ?_ ?_ ?_
      · intro a' l b q1 q2 q3 q4
        by_cases ca : a' = a
        · subst ca; exact k4 l b q3 q4
        · rw [k3 a' l b ca]; exact hV a' l b (by omega) q2 q3 q4
      · intro a' l b q1 q2 q3
        rw [k3 a' l b (by omega)]; exact h2 a' l b (by omega) q2 q3
      · intro a' q1 q2 q3
        by_cases ca : a' = a
        · subst ca; rw [c] at q3; cases q3
        · exact hff a' (by omega) q2 q3
    · have c' : free a = false := by simpa using c
      rw [if_pos (by rw [hfr a (by omega)]; exact c')]
      rw [if_neg c] at hrm
      have hx3 : p_I (ww_rm free (S - (a + 1)) (a + 1)) + 1 = p_I (ww_rm free (S - a) a) := by
        rw [p_1, p_Iadd, hrm]; congr 1; omega
      obtain ⟨v1, T1, fs, k1, k2, k3, k4, k5, k6⟩ := t_stepV N S hN vms n pc pp free w need nw bar least most v_wfree v_wpip v_inee v_iwid v_ibar v_inea v_iswi vf vl hfr hp hi hc hw20 hsw hle hmo hS (a := a) (by omega) c' v T hv (fun a' l b q1 q2 q3 q4 => hV a' l b (by omega) q2 q3 q4) (fun l b q1 q2 => h2 a l b (by omega) q1 q2)
      rw [hx3, k1]
      simp only [Option.bind]
      refine t_fill_cut1 N S hN vms n pc pp free w need nw bar least most v_wfree v_wpip v_inee v_iwid v_ibar v_inea v_iswi hfr hp hi hc hw20 hsw hle hmo hS a m v1 T1 _ _ (by omega) (by omega) k2 ?_ ?_ ?_
      · intro a' l b q1 q2 q3 q4
        by_cases ca : a' = a
        · subst ca; exact k4 l b q3 q4
        · rw [k3 a' l b ca]; exact hV a' l b (by omega) q2 q3 q4
      · intro a' l b q1 q2 q3
        rw [k3 a' l b (by omega)]; exact h2 a' l b (by omega) q2 q3
      · intro a' q1 q2 q3
        by_cases ca : a' = a
        · subst ca
          exact ⟨⟨fs, k5, by rw [p_u, if_pos rfl], k6⟩, by rw [p_u, if_pos rfl]⟩
        · obtain ⟨⟨fs', r1, r2, r3⟩, r4⟩ := hff a' (by omega) q2 q3
          exact ⟨⟨fs', r1, by rw [p_u, if_neg ca]; exact r2, r3⟩, by rw [p_u, if_neg ca]; exact r4⟩
theorem t_fill_cut0 (N S : Nat) (vms vn vpc vle vmo : Int32) (v_wfree v_wpip v_inee : Nat → Int32) (v_iwid v_ibar : Nat → Int32) (v_inea : Nat → Int64) (v_iswi : Nat → Int32) (vf vl : Nat → Int32) (hS : S ≤ 40) (T : Nat → Nat → Nat → Int) (g : Nat → Int) :
    ∀ d m e : Nat, ∀ (v : Nat → Int64), e + d = 8 → d < m → t_tb S v (t_row T S 0 (fun b => if b < e then 0 else g b)) →
    ∃ v' m', f_Table_fill_cut N S 8 6 6 8 64 64 ((S + 1) * 512) S S (p_I S) vpc v_wfree v_wpip vms vn v_iwid v_inee v_ibar v_inea v_iswi vle vmo m 0 (p_I e) 0 v vf vl = f_Table_fill_cut N S 8 6 6 8 64 64 ((S + 1) * 512) S S (p_I S) vpc v_wfree v_wpip vms vn v_iwid v_inee v_ibar v_inea v_iswi vle vmo m' 1 0 (p_I S - 1) v' vf vl ∧ m = m' + d + 1 ∧ t_tb S v' (t_row T S 0 (fun _ => 0))
  | 0, m + 1, e, v, h, _, hv => by
    refine ⟨v, m, ?_, by omega, ?_⟩
    · rw [f_Table_fill_cut_0, if_pos (by rw [p_8, p_Ile] <;> omega)]
    · exact t_tb_congr (fun b hb => if_pos (by omega)) hv
  | d + 1, m + 1, e, v, h, hm, hv => by
    obtain ⟨v', m', h1, h2, h3⟩ := t_fill_cut0 N S vms vn vpc vle vmo v_wfree v_wpip v_inee v_iwid v_ibar v_inea v_iswi vf vl hS T g d m (e + 1) (vp_updL v ((S * 64 + 0) * 8 + e) (p_J 0)) (by omega) (by omega) (t_tb_congr (fun b hb => by
        by_cases cb : b = e
        · rw [if_pos cb, if_pos (show b < e + 1 by omega)]
        · rw [if_neg cb]
          by_cases cc : b < e
          · rw [if_pos cc, if_pos (show b < e + 1 by omega)]
          · rw [if_neg cc, if_neg (show ¬ b < e + 1 by omega)]) (t_tb_upd (by omega) (by omega) (by omega) (by omega) hv))
    refine ⟨v', m', ?_, by omega, h3⟩
    rw [f_Table_fill_cut_0, if_neg (by rw [p_8, p_Ile] <;> omega)]
    unfold f_Table_cell
    simp only [Option.bind]
    rw [show (p_I S * 64 + 0) * 8 + p_I e = p_I (((S * 64 + 0) * 8 + e : Nat) : Int) from p_cell S 0 e, if_neg (p_in (by omega) (by omega)), p_ix _ (by omega), p_up]
    exact h1
theorem t_fillV (N S : Nat) (hN : 30000 ≤ N) (vms : Int32) (n pc : Nat) (pp : Nat → Int) (free : Nat → Bool) (w : Nat → Nat) (need : Nat → Int) (nw : Nat → Nat → Int) (bar : Nat → Nat → Bool) (least most : Nat) (v_wfree v_wpip v_inee : Nat → Int32) (v_iwid v_ibar : Nat → Int32) (v_inea : Nat → Int64) (v_iswi : Nat → Int32) (hfr : ∀ k, k < S → (v_wfree k = 0 ↔ free k = false)) (hp : t_pip pc pp v_wpip) (hi : t_nee n w need v_iwid v_inee) (hc : t_cls n nw bar v_ibar v_inea) (hw20 : ∀ k, w k ≤ 20) (hsw : ∀ s, s < 2 ^ n → v_iswi s = p_I (p_sum (fun k => (w k : Int)) s)) (hle : 1 ≤ least ∧ least ≤ 40) (hmo : most ≤ 40) (hS : S ≤ 40) (v : Nat → Int64) (vf vl : Nat → Int32) :
    ∃ v' T' vf' vl', f_Table_fill N S 8 6 6 8 64 64 ((S + 1) * 512) S S (p_I S) (p_I pc) v_wfree v_wpip vms (p_I n) v_iwid v_inee v_ibar v_inea v_iswi (p_I least) (p_I most) v vf vl = some (v', vf', vl') ∧ t_tb S v' T' ∧ (∀ a' l b, a' ≤ S → l < 64 → b < 8 → ww_V S n free w (fun k q => ww_met pc pp w need k q) nw bar least most a' l b (T' a' l b)) ∧ (∀ a', a' < S → free a' = false → ww_ff S n free w (fun k q => ww_met pc pp w need k q) most vf' vl' a') := by
  obtain ⟨v0, z1, z2⟩ := t_fillJ N ((S + 1) * 512) (-1) (by omega) hN v
  have hv0 : t_tb S v0 (fun _ _ _ => -1) := by
    intro a l b h1 h2 h3
    refine ⟨?_, (by decide : (-1 : Int) ≤ -1), (by decide : (-1 : Int) ≤ 5000000)⟩
    rw [z2, if_pos (by omega)]; rfl
  obtain ⟨v1, m1, c1, c2, c3⟩ := t_fill_cut0 N S vms (p_I n) (p_I pc) (p_I least) (p_I most) v_wfree v_wpip v_inee v_iwid v_ibar v_inea v_iswi vf vl hS _ _ 8 N 0 v0 (by omega) (by omega) (t_tb_congr (fun b _ => (if_neg (by omega)).symm) (t_tb_self S 0 hv0))
  obtain ⟨v2, T2, vf2, vl2, d1, d2, d3, d4⟩ := t_fill_cut1 N S hN vms n pc pp free w need nw bar least most v_wfree v_wpip v_inee v_iwid v_ibar v_inea v_iswi hfr hp hi hc hw20 hsw hle hmo hS S m1 v1 _ vf vl (Nat.le_refl _) (by omega) c3 (by
    intro a' l b q1 q2 q3 q4
    obtain rfl : a' = S := by omega
    by_cases cl : l = 0
    · subst cl
      rw [t_row_on]
      exact Or.inr ⟨Int.le_refl _, (ww_Y_end _ n free w _ nw bar least most b 0 0).2 ⟨rfl, rfl⟩, fun x hx => by have := (ww_Y_end _ n free w _ nw bar least most b 0 x).1 hx; omega⟩
    · rw [t_row_off2 _ _ _ _ cl]
      exact Or.inl ⟨rfl, fun x hx => cl ((ww_Y_end _ n free w _ nw bar least most b l x).1 hx).1⟩) (by
    intro a' l b q1 q2 q3
    rw [t_row_off _ _ _ _ (by omega)]) (by
    intro a' q1 q2
    omega)
  refine ⟨v2, T2, vf2, vl2, ?_, d2, d3, d4⟩
  unfold f_Table_fill
  rw [z1]
  simp only [Option.bind]
  refine c1.trans (Eq.trans ?_ d1)
  rw [Nat.sub_self, p_1, p_Isub]
  rfl
