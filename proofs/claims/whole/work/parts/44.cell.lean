def t_P (n : Nat) (w : Nat → Nat) (nw : Nat → Nat → Int) (bar : Nat → Nat → Bool) (least lon : Nat) (fs : Nat) (T : Nat → Nat → Nat → Int) (a l : Nat) (e b : Nat) (x : Int) : Prop :=
  (b ≠ 6 ∧ ∃ f, least ≤ f ∧ f ≤ lon ∧ T (a + f) l 6 = x ∧ 0 ≤ x) ∨ (∃ k, k < e ∧ Nat.testBit l k = true ∧ Nat.testBit fs k = true ∧ bar k b = false ∧ 0 ≤ T (a + w k) (l - 2 ^ k) k ∧ x = T (a + w k) (l - 2 ^ k) k + nw k b)
theorem t_P_skip {n : Nat} {w : Nat → Nat} {nw : Nat → Nat → Int} {bar : Nat → Nat → Bool} {least lon fs : Nat} {T : Nat → Nat → Nat → Int} {a l e b : Nat} (h : ∀ x, ¬ (Nat.testBit l e = true ∧ Nat.testBit fs e = true ∧ bar e b = false ∧ 0 ≤ T (a + w e) (l - 2 ^ e) e ∧ x = T (a + w e) (l - 2 ^ e) e + nw e b)) (x : Int) :
    t_P n w nw bar least lon fs T a l (e + 1) b x ↔ t_P n w nw bar least lon fs T a l e b x := by
  unfold t_P
  constructor
  · rintro (h1 | ⟨k, h1, h2⟩)
    · exact Or.inl h1
    · by_cases c : k = e
      · subst c; exact absurd h2 (h x)
      · exact Or.inr ⟨k, by omega, h2⟩
  · rintro (h1 | ⟨k, h1, h2⟩)
    · exact Or.inl h1
    · exact Or.inr ⟨k, by omega, h2⟩
theorem t_P_take {n : Nat} {w : Nat → Nat} {nw : Nat → Nat → Int} {bar : Nat → Nat → Bool} {least lon fs : Nat} {T : Nat → Nat → Nat → Int} {a l e b : Nat} (hnw : ∀ k b, 0 ≤ nw k b ∧ nw k b ≤ 100000) (h1 : Nat.testBit l e = true) (h2 : Nat.testBit fs e = true) (h4 : 0 ≤ T (a + w e) (l - 2 ^ e) e) {g : Nat → Int} (hg : ww_sup (t_P n w nw bar least lon fs T a l e b) (g b)) :
    ww_sup (t_P n w nw bar least lon fs T a l (e + 1) b) (t_G nw bar e (T (a + w e) (l - 2 ^ e) e) g b) := by
  have e4 := hnw e b
  unfold t_G
  by_cases c : bar e b = false
  · have hnew : t_P n w nw bar least lon fs T a l (e + 1) b (T (a + w e) (l - 2 ^ e) e + nw e b) := Or.inr ⟨e, by omega, h1, h2, c, h4, rfl⟩
    have hold : ∀ x, t_P n w nw bar least lon fs T a l e b x → t_P n w nw bar least lon fs T a l (e + 1) b x := by
      rintro x (q | ⟨k, q1, q2⟩)
      · exact Or.inl q
      · exact Or.inr ⟨k, by omega, q2⟩
    have hsp : ∀ x, t_P n w nw bar least lon fs T a l (e + 1) b x → t_P n w nw bar least lon fs T a l e b x ∨ x = T (a + w e) (l - 2 ^ e) e + nw e b := by
      rintro x (q | ⟨k, q1, q2⟩)
      · exact Or.inl (Or.inl q)
      · by_cases ck : k = e
        · subst ck; exact Or.inr q2.2.2.2.2
        · exact Or.inl (Or.inr ⟨k, by omega, q2⟩)
    by_cases c2 : g b < T (a + w e) (l - 2 ^ e) e + nw e b
    · rw [if_pos ⟨c, c2⟩]
      refine Or.inr ⟨by omega, hnew, ?_⟩
      intro x hx
      rcases hsp x hx with hx | hx
      · rcases hg with ⟨g1, g2⟩ | ⟨g1, g2, g3⟩
        · exact absurd hx (g2 x)
        · have := g3 x hx; omega
      · omega
    · rw [if_neg (fun q => c2 q.2)]
      rcases hg with ⟨g1, g2⟩ | ⟨g1, g2, g3⟩
      · omega
      · refine Or.inr ⟨g1, hold _ g2, ?_⟩
        intro x hx
        rcases hsp x hx with hx | hx
        · exact g3 x hx
        · omega
  · rw [if_neg (fun q => c q.1)]
    exact (ww_sup_iff (fun x => t_P_skip (fun y q => c q.2.2.1) x) (g b)).2 hg
theorem t_cell_cut1 (N S : Nat) (hN : 30000 ≤ N) (vms vl vm : Int32) (vtl : Nat → Int32) (n : Nat) (w : Nat → Nat) (nw : Nat → Nat → Int) (bar : Nat → Nat → Bool) (v_iwid v_ibar : Nat → Int32) (v_inea : Nat → Int64) (v_tfit : Nat → Int32) (hc : t_cls n nw bar v_ibar v_inea) (hw : ∀ k, k < n → v_iwid k = p_I (w k) ∧ 1 ≤ w k ∧ w k ≤ 20) (T : Nat → Nat → Nat → Int) (hS : S ≤ 40) {a l : Nat} (ha : a < S) (hl : l < 64) (least lon fs : Nat) (hfs : fs < 64) (hfw : ∀ k, k < n → Nat.testBit fs k = true → a + w k ≤ S) (hT : ∀ a' l' b', a < a' → a' ≤ S → l' < 64 → b' < 8 → T a' l' b' ≤ 4900000) (x4 : Int64) :
    ∀ d m e : Nat, ∀ (v : Nat → Int64) (g : Nat → Int), e + d = n → d < m → t_tb S v (t_row T a l g) → (∀ b, b < 8 → ww_sup (t_P n w nw bar least lon fs T a l e b) (g b)) →
    ∃ v' g', f_Table_fillCell_cut N 6 8 64 ((S + 1) * 512) S S vms (p_I n) v_iwid v_ibar v_inea vl vm v_tfit vtl m 1 (p_I a) (p_I l) (p_I (((a * 64 + l) * 8 : Nat) : Int)) x4 (p_I ((l &&& fs : Nat) : Int)) (p_I e) v = some v' ∧ t_tb S v' (t_row T a l g') ∧ ∀ b, b < 8 → ww_sup (t_P n w nw bar least lon fs T a l n b) (g' b)
  | 0, m + 1, e, v, g, h, _, hv, hg => by
    have hn := hc.1
    refine ⟨v, g, ?_, hv, ?_⟩
    · rw [f_Table_fillCell_cut_1, if_pos (by rw [p_Ile] <;> omega)]
    · obtain rfl : e = n := by omega
      exact hg
  | d + 1, m + 1, e, v, g, h, hm, hv, hg => by
    have hn := hc.1
    have hnw := hc.2.1
    obtain ⟨w1, w2, w3⟩ := hw e (by omega)
    rw [f_Table_fillCell_cut_1, if_neg (by rw [p_Ile] <;> omega), t_has N (p_lt64 l hl fs hfs).2.1 (by omega), Nat.testBit_and, p_up]
    by_cases c : (Nat.testBit l e && Nat.testBit fs e) = true
    · rw [c]
      simp only [Option.bind, if_true]
      rw [Bool.and_eq_true] at c
      obtain ⟨b1, b2, b3⟩ := p_b1 l hl e (by omega) c.1
      have hfe := hfw e (by omega) c.2
      rw [if_neg (p_in (by omega) (by omega)), p_ix e (by omega), w1, p_addN, p_bit e (by omega), p_cl l hl e (by omega) c.1, t_val N hv hS hfe (p_s64 e hl) (by omega), t_row_off T g _ _ (by omega)]
      simp only [Option.bind]
      have q1 := hT (a + w e) (l - 2 ^ e) e (by omega) (by omega) (p_s64 e hl) (by omega)
      have q2 := (hv (a + w e) (l - 2 ^ e) e (by omega) (p_s64 e hl) (by omega)).2.1
      rw [t_row_off T g _ _ (by omega)] at q2
      by_cases c0 : T (a + w e) (l - 2 ^ e) e = -1
      · rw [c0, t_off0]
        simp only [Option.bind]
        refine t_cell_cut1 N S hN vms vl vm vtl n w nw bar v_iwid v_ibar v_inea v_tfit hc hw T hS ha hl least lon fs hfs hfw hT x4 d m (e + 1) v g (by omega) (by omega) hv ?_
        intro b hb
        exact (ww_sup_iff (fun x => t_P_skip (fun y q => by have := q.2.2.2.1; omega) x) (g b)).2 (hg b hb)
      · obtain ⟨v', o1, o2⟩ := t_off N S hN vms n nw bar v_ibar v_inea hc T hS (a := a) (l := l) (k := e) (by omega) hl (by omega) (y := T (a + w e) (l - 2 ^ e) e) (by omega) (by omega) g v hv
        rw [o1]
        simp only [Option.bind]
        refine t_cell_cut1 N S hN vms vl vm vtl n w nw bar v_iwid v_ibar v_inea v_tfit hc hw T hS ha hl least lon fs hfs hfw hT x4 d m (e + 1) v' _ (by omega) (by omega) o2 ?_
        intro b hb
        exact t_P_take hnw c.1 c.2 (by omega) (hg b hb)
    · simp only [Bool.not_eq_true] at c
      rw [c]
      simp only [Option.bind]
      rw [if_neg (by decide)]
      refine t_cell_cut1 N S hN vms vl vm vtl n w nw bar v_iwid v_ibar v_inea v_tfit hc hw T hS ha hl least lon fs hfs hfw hT x4 d m (e + 1) v g (by omega) (by omega) hv ?_
      intro b hb
      refine (ww_sup_iff (fun x => t_P_skip (fun y q => ?_) x) (g b)).2 (hg b hb)
      rw [q.1, q.2.1] at c
      cases c
theorem t_cell_cut0 (N S : Nat) (vms vl vm : Int32) (vtl : Nat → Int32) (vn : Int32) (v_iwid v_ibar : Nat → Int32) (v_inea : Nat → Int64) (v_tfit : Nat → Int32) (T : Nat → Nat → Nat → Int) (hS : S ≤ 40) {a l : Nat} (ha : a < S) (hl : l < 64) (fs : Nat) (hfs : fs < 64) (hft : v_tfit a = p_I fs) {r : Int} (hr : -1 ≤ r) (hr2 : r ≤ 5000000) (g : Nat → Int) :
    ∀ d m e : Nat, ∀ (v : Nat → Int64), e + d = 8 → d < m → t_tb S v (t_row T a l (fun b => if b < e then (if b = 6 then -1 else r) else g b)) →
    ∃ v' m', f_Table_fillCell_cut N 6 8 64 ((S + 1) * 512) S S vms vn v_iwid v_ibar v_inea vl vm v_tfit vtl m 0 (p_I a) (p_I l) (p_I (((a * 64 + l) * 8 : Nat) : Int)) (p_J r) (p_I e) 0 v = f_Table_fillCell_cut N 6 8 64 ((S + 1) * 512) S S vms vn v_iwid v_ibar v_inea vl vm v_tfit vtl m' 1 (p_I a) (p_I l) (p_I (((a * 64 + l) * 8 : Nat) : Int)) (p_J r) (p_I ((l &&& fs : Nat) : Int)) (p_I 0) v' ∧ m = m' + d + 1 ∧ t_tb S v' (t_row T a l (fun b => if b = 6 then -1 else r))
  | 0, m + 1, e, v, h, _, hv => by
    refine ⟨v, m, ?_, by omega, ?_⟩
    · rw [f_Table_fillCell_cut_0, if_pos (by rw [p_8, p_Ile] <;> omega), if_neg (p_in (by omega) (by omega)), p_ix a (by omega), hft, p_and l hl fs hfs]
      rfl
    · exact t_tb_congr (fun b hb => if_pos (by omega)) hv
  | d + 1, m + 1, e, v, h, hm, hv => by
    rw [f_Table_fillCell_cut_0, if_neg (by rw [p_8, p_Ile] <;> omega), p_addN, if_neg (p_in (by omega) (by omega)), p_ix _ (by omega), p_up]
    by_cases c : e = 6
    · rw [if_pos (by rw [c]; decide), p_Jm1]
      obtain ⟨v', m', h1, h2, h3⟩ := t_cell_cut0 N S vms vl vm vtl vn v_iwid v_ibar v_inea v_tfit T hS ha hl fs hfs hft hr hr2 g d m (e + 1) (vp_updL v ((a * 64 + l) * 8 + e) (p_J (-1))) (by omega) (by omega) (t_tb_congr (fun b hb => by
        by_cases cb : b = e
        · rw [if_pos cb, if_pos (show b < e + 1 by omega), if_pos (by omega)]
        · rw [if_neg cb]
          by_cases cc : b < e
          · rw [if_pos cc, if_pos (show b < e + 1 by omega)]
          · rw [if_neg cc, if_neg (show ¬ b < e + 1 by omega)]) (t_tb_upd hl (by omega) (by omega) (by omega) hv))
      exact ⟨v', m', h1, by omega, h3⟩
    · rw [if_neg (by rw [p_6, p_Ieq] <;> omega), if_neg (p_inx (by omega) (by omega))]
      obtain ⟨v', m', h1, h2, h3⟩ := t_cell_cut0 N S vms vl vm vtl vn v_iwid v_ibar v_inea v_tfit T hS ha hl fs hfs hft hr hr2 g d m (e + 1) (vp_updL v ((a * 64 + l) * 8 + e) (p_J r)) (by omega) (by omega) (t_tb_congr (fun b hb => by
        by_cases cb : b = e
        · rw [if_pos cb, if_pos (show b < e + 1 by omega), if_neg (by omega)]
        · rw [if_neg cb]
          by_cases cc : b < e
          · rw [if_pos cc, if_pos (show b < e + 1 by omega)]
          · rw [if_neg cc, if_neg (show ¬ b < e + 1 by omega)]) (t_tb_upd hl (by omega) (by omega) (by omega) hv))
      exact ⟨v', m', h1, by omega, h3⟩
theorem t_P_V {S n : Nat} {free : Nat → Bool} {w : Nat → Nat} {met : Nat → Nat → Bool} {nw : Nat → Nat → Int} {bar : Nat → Nat → Bool} {least most : Nat} (hn : n ≤ 6) (hw : ∀ k, k < n → 1 ≤ w k) (hle : 1 ≤ least) (hnw : ∀ k b, 0 ≤ nw k b ∧ nw k b ≤ 100000) {fs : Nat} {T : Nat → Nat → Nat → Int} {a l b : Nat} (ha : a < S) (hfa : free a = false) (hl : l < 64) (hb : b < 8) (hfs : ∀ k, k < 6 → Nat.testBit fs k = (decide (k < n) && (decide (w k ≤ ww_op free (S - a) a) && met k a)))
    (hV : ∀ a' l' b', a < a' → a' ≤ S → l' < 64 → b' < 8 → ww_V S n free w met nw bar least most a' l' b' (T a' l' b')) {x : Int} (h : ww_sup (t_P n w nw bar least (min most (ww_op free (S - a) a)) fs T a l n b) x) :
    ww_V S n free w met nw bar least most a l b x := by
  have hop := ww_op_le free (S - a) a
  have key : ∀ z, ww_Y S n free w met nw bar least most a b l z → ∃ z', z ≤ z' ∧ t_P n w nw bar least (min most (ww_op free (S - a) a)) fs T a l n b z' := by
    intro z hz
    rcases (ww_Y_step S n free w met nw bar least most ha hfa b l z).1 hz with ⟨k, h1, h2, h3, h4, h5, y, h6, h7⟩ | ⟨h1, f, h2, h3, h4, h5⟩
    · have w1 := hw k h1
      rcases hV (a + w k) (l - 2 ^ k) k (by omega) (by omega) (p_s64 k hl) (by omega) with ⟨g1, g2⟩ | ⟨g1, g2, g3⟩
      · exact absurd h7 (g2 y)
      · have := g3 y h7
        refine ⟨T (a + w k) (l - 2 ^ k) k + nw k b, by omega, Or.inr ⟨k, h1, h2, ?_, h5, g1, rfl⟩⟩
        rw [hfs k (by omega), decide_eq_true h1, decide_eq_true h3, h4]; rfl
    · rcases hV (a + f) l 6 (by omega) (by omega) (by omega) (by omega) with ⟨g1, g2⟩ | ⟨g1, g2, g3⟩
      · exact absurd h5 (g2 z)
      · have := g3 z h5
        exact ⟨T (a + f) l 6, by omega, Or.inl ⟨h1, f, h2, by omega, rfl, g1⟩⟩
  have back : ∀ z, t_P n w nw bar least (min most (ww_op free (S - a) a)) fs T a l n b z → ww_Y S n free w met nw bar least most a b l z := by
    rintro z (⟨h1, f, h2, h3, h4, h5⟩ | ⟨k, h1, h2, h3, h4, h5, h6⟩)
    · refine (ww_Y_step S n free w met nw bar least most ha hfa b l z).2 (Or.inr ⟨h1, f, h2, by omega, by omega, ?_⟩)
      rcases hV (a + f) l 6 (by omega) (by omega) (by omega) (by omega) with ⟨g1, g2⟩ | ⟨g1, g2, g3⟩
      · omega
      · rw [← h4]; exact g2
    · rw [hfs k (by omega), Bool.and_eq_true, Bool.and_eq_true, decide_eq_true_eq, decide_eq_true_eq] at h3
      have w1 := hw k h1
      refine (ww_Y_step S n free w met nw bar least most ha hfa b l z).2 (Or.inl ⟨k, h1, h2, h3.2.1, h3.2.2, h4, _, h6, ?_⟩)
      rcases hV (a + w k) (l - 2 ^ k) k (by omega) (by omega) (p_s64 k hl) (by omega) with ⟨g1, g2⟩ | ⟨g1, g2, g3⟩
      · omega
      · exact g2
  rcases h with ⟨h1, h2⟩ | ⟨h1, h2, h3⟩
  · refine Or.inl ⟨h1, fun z hz => ?_⟩
    obtain ⟨z', -, h4⟩ := key z hz
    exact h2 z' h4
  · refine Or.inr ⟨h1, back x h2, fun z hz => ?_⟩
    obtain ⟨z', h4, h5⟩ := key z hz
    have := h3 z' h5
    omega
theorem t_V_bd {S n : Nat} {free : Nat → Bool} {w : Nat → Nat} {met : Nat → Nat → Bool} {nw : Nat → Nat → Int} {bar : Nat → Nat → Bool} {least most : Nat} (hw : ∀ k, k < n → 1 ≤ w k) (hnw : ∀ k b, 0 ≤ nw k b ∧ nw k b ≤ 100000) {a l b : Nat} {x : Int} (h : ww_V S n free w met nw bar least most a l b x) : -1 ≤ x ∧ x ≤ 100000 * ((S - a : Nat) : Int) := by
  rcases h with ⟨h1, h2⟩ | ⟨h1, h2, h3⟩
  · omega
  · have := ww_Y_bd S n free w met nw bar least most hnw hw h2
    omega
theorem t_cellV (N S : Nat) (hN : 30000 ≤ N) (vms : Int32) (v_tlon : Nat → Int32) (n : Nat) (free : Nat → Bool) (w : Nat → Nat) (met : Nat → Nat → Bool) (nw : Nat → Nat → Int) (bar : Nat → Nat → Bool) (least most : Nat) (v_iwid v_ibar : Nat → Int32) (v_inea : Nat → Int64) (v_tfit : Nat → Int32) (hc : t_cls n nw bar v_ibar v_inea) (hw : ∀ k, k < n → v_iwid k = p_I (w k) ∧ 1 ≤ w k ∧ w k ≤ 20) (hle : 1 ≤ least ∧ least ≤ 40) (hmo : most ≤ 40) (T : Nat → Nat → Nat → Int) (v : Nat → Int64) (hv : t_tb S v T) (hS : S ≤ 40) {a l : Nat} (ha : a < S) (hfa : free a = false) (hl : l < 64) {fs : Nat} (hfs : fs < 64) (hfsb : ∀ k, k < 6 → Nat.testBit fs k = (decide (k < n) && (decide (w k ≤ ww_op free (S - a) a) && met k a))) (hft : v_tfit a = p_I fs) (hlo : v_tlon a = p_I ((min most (ww_op free (S - a) a) : Nat) : Int))
    (hV : ∀ a' l' b', a < a' → a' ≤ S → l' < 64 → b' < 8 → ww_V S n free w met nw bar least most a' l' b' (T a' l' b')) :
    ∃ v' g', f_Table_fillCell N 6 8 64 ((S + 1) * 512) S S vms (p_I n) v_iwid v_ibar v_inea (p_I least) (p_I most) v v_tfit v_tlon (p_I a) (p_I l) = some v' ∧ t_tb S v' (t_row T a l g') ∧ ∀ b, b < 8 → ww_V S n free w met nw bar least most a l b (g' b) := by
  have hop := ww_op_le free (S - a) a
  have hn := hc.1
  have hnw := hc.2.1
  obtain ⟨r, r1, r2, r3, r4, r5⟩ := t_bwf N S hN v_tlon (p_I most) hv hS (a := a) (l := l) (lon := min most (ww_op free (S - a) a)) (least := least) ha hl (by omega) (by omega) hlo
  obtain ⟨v1, m1, c1, c2, c3⟩ := t_cell_cut0 N S vms (p_I least) (p_I most) v_tlon (p_I n) v_iwid v_ibar v_inea v_tfit T hS ha hl fs hfs hft r2 r5 (T a l) 8 N 0 v (by omega) (by omega) (t_tb_congr (fun b _ => (if_neg (by omega)).symm) (t_tb_self a l hv))
  obtain ⟨v2, g2, d1, d2, d3⟩ := t_cell_cut1 N S hN vms (p_I least) (p_I most) v_tlon n w nw bar v_iwid v_ibar v_inea v_tfit hc hw T hS ha hl least (min most (ww_op free (S - a) a)) fs hfs (by
    intro k hk hb
    rw [hfsb k (by omega), Bool.and_eq_true, Bool.and_eq_true, decide_eq_true_eq, decide_eq_true_eq] at hb
    omega) (by
    intro a' l' b' h1 h2 h3 h4
    have := t_V_bd (fun k hk => (hw k hk).2.1) hnw (hV a' l' b' h1 h2 h3 h4)
    omega) (p_J r) n m1 0 v1 _ (by omega) (by omega) c3 (by
    intro b hb
    by_cases cb : b = 6
    · rw [if_pos cb]
      refine Or.inl ⟨rfl, ?_⟩
      rintro x (q | ⟨k, q, -⟩)
      · exact q.1 cb
      · omega
    · rw [if_neg cb]
      by_cases cr : r = -1
      · refine Or.inl ⟨cr, ?_⟩
        rintro x (⟨-, f, q1, q2, q3, q4⟩ | ⟨k, q, -⟩)
        · have := r3 f q1 q2; omega
        · omega
      · refine Or.inr ⟨by omega, ?_, ?_⟩
        · rcases r4 with r4 | ⟨f, q1, q2, q3⟩
          · exact absurd r4 cr
          · exact Or.inl ⟨cb, f, q1, q2, q3, by omega⟩
        · rintro x (⟨-, f, q1, q2, q3, q4⟩ | ⟨k, q, -⟩)
          · have := r3 f q1 q2; omega
          · omega)
  refine ⟨v2, g2, ?_, d2, ?_⟩
  · unfold f_Table_fillCell f_Table_cell
    simp only [Option.bind]
    rw [r1]
    simp only [Option.bind]
    rw [p_cell0]
    exact c1.trans d1
  · intro b hb
    exact t_P_V hn (fun k hk => (hw k hk).2.1) hle.1 hnw ha hfa hl hb hfsb hV (d3 b hb)
