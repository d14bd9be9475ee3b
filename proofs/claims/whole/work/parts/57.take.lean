section
variable (N S n : Nat) (free : Nat → Bool) (w : Nat → Nat) (met : Nat → Nat → Bool) (nw : Nat → Nat → Int) (bar : Nat → Nat → Bool) (least most : Nat) (wo co : Nat → Int) (mE : Nat → Bool) (T Bw Bc : Nat → Nat → Nat → Int) (v_iwid v_ibar : Nat → Int32) (v_inea v_tval : Nat → Int64) (v_tfit v_tlon : Nat → Int32)
def t_env : Prop := 30000 ≤ N ∧ S ≤ 40 ∧ t_cls n nw bar v_ibar v_inea ∧ t_sym nw bar ∧ (∀ k, k < n → v_iwid k = p_I (w k) ∧ 1 ≤ w k ∧ w k ≤ 20) ∧ (1 ≤ least ∧ least ≤ 40) ∧ most ≤ 40 ∧ t_tb S v_tval T ∧ (∀ a l b, a ≤ S → l < 64 → b < 8 → ww_V S n free w met nw bar least most a l b (T a l b)) ∧ (∀ a, a < S → free a = false → ww_ff S n free w met most v_tfit v_tlon a)
def ww_td (a b U : Nat) (Lt : List Nat) (vt : Nat → Int32) : Prop := Lt.length ≤ 64 ∧ ww_en Lt vt 0 ∧ ∀ F, F ∈ Lt ↔ ww_TF wo co mE T a b U (Bw a b U) (Bc a b U) F
end
section
variable {N S n : Nat} {free : Nat → Bool} {w : Nat → Nat} {met : Nat → Nat → Bool} {nw : Nat → Nat → Int} {bar : Nat → Nat → Bool} {least most : Nat} {wo co : Nat → Int} {mE : Nat → Bool} {T Bw Bc : Nat → Nat → Nat → Int} {v_iwid v_ibar : Nat → Int32} {v_inea v_tval : Nat → Int64} {v_tfit v_tlon : Nat → Int32}
theorem t_keepI (he : t_env N S n free w met nw bar least most T v_iwid v_ibar v_inea v_tval v_tfit v_tlon) (hB : ∀ a b U, a ≤ S → b < 8 → U < 2 ^ n → ww_B S n free w met nw bar least most wo co mE a b U (Bw a b U) (Bc a b U)) {a b U j : Nat} (ha : a < S) (hf : free a = false) (hb : b < 8) (hU : U < 2 ^ n) (hj : j < n) (vms : Int32) (pco ptc : Int32) (pww pwc bw bc : Int64) {Lt : List Nat} {vt : Nat → Int32} (ht : ww_td wo co mE T Bw Bc a b U Lt vt) :
    (ww_GI S free w met nw bar wo co Bw Bc a b U j → ∃ Lt' vt', f_Planner_keepSets N 6 8 64 ((S + 1) * 512) S 64 vms (p_I n) v_iwid v_ibar v_inea v_tval v_tfit pco ptc (p_I U) pww pwc (p_I Lt.length) bw bc (p_I a) (p_I b) vt (p_I j) (p_I (w j)) = some (true, p_I (List.length Lt'), vt') ∧ ww_td wo co mE T Bw Bc (a + w j) j (U ||| 2 ^ j) Lt' vt') ∧
    (¬ ww_GI S free w met nw bar wo co Bw Bc a b U j → f_Planner_keepSets N 6 8 64 ((S + 1) * 512) S 64 vms (p_I n) v_iwid v_ibar v_inea v_tval v_tfit pco ptc (p_I U) pww pwc (p_I Lt.length) bw bc (p_I a) (p_I b) vt (p_I j) (p_I (w j)) = some (false, p_I Lt.length, vt)) := by
  obtain ⟨hN, hS, hc, hsy, hw, hle, hmo, htb, hV, hff⟩ := he
  obtain ⟨t1, t2, t3⟩ := ht
  have hn := hc.1
  have h64 := p_2n n (by omega)
  have hU6 : U < 64 := by omega
  have hop := ww_op_le free (S - a) a
  let P : Nat → Prop := fun F => (Nat.testBit (p_df F U) j = true ∧ w j ≤ ww_op free (S - a) a ∧ met j a = true ∧ bar j b = false ∧ 0 ≤ T (a + w j) (p_df F U - 2 ^ j) j ∧ T (a + w j) (p_df F U - 2 ^ j) j + nw j b = T a (p_df F U) b)
  let q : Nat → Bool := fun F => @decide (P F) (Classical.propDecidable _)
  have qt : ∀ F, q F = true ↔ P F := fun F => @decide_eq_true_iff (P F) (Classical.propDecidable _)
  have hq : ∀ F, F ∈ Lt → (p_I j = -1 → f_Table_isFillerBest N ((S + 1) * 512) v_tval (p_I a) (p_I F &&& (p_I U ^^^ (-1))) (p_I b) (p_I (w j)) = some (q F)) ∧ (p_I j ≠ -1 → f_Table_isItemBest N 6 8 64 ((S + 1) * 512) S vms (p_I n) v_iwid v_ibar v_inea v_tval v_tfit (p_I a) (p_I F &&& (p_I U ^^^ (-1))) (p_I b) (p_I j) = some (q F)) := by
    intro F hF
    have hF6 := ((t3 F).1 hF).1
    refine ⟨fun hx => ?_, fun _ => ?_⟩
    · rw [p_m1, p_Ieq] at hx <;> omega
    · rw [p_dif F hF6 U hU6]
      obtain ⟨r, r1, r2⟩ := t_iib N hS vms hc hsy hw htb (a := a) (l := p_df F U) (b := b) (k := j) ha (p_d0 F hF6 U hU6) hb hj (hff a ha hf)
      have e : r = q F := by
        cases hr : r with
        | true => exact ((qt F).2 (r2.1 hr)).symm
        | false =>
          cases hqF : q F with
          | false => rfl
          | true => rw [r2.2 ((qt F).1 hqF)] at hr; cases hr
      rw [← e]
      exact r1
  obtain ⟨v', k1, k2, k3⟩ := t_keep_cut N S vms (p_I n) v_iwid v_ibar v_inea v_tval v_tfit pco ptc (p_I U) pww pwc bw bc (p_I a) (p_I b) (p_I j) (p_I (w j)) q Lt.length t1 Lt N 0 [] vt hq (by omega) (Nat.zero_le _) (by omega) (fun i x hx => by simp at hx) t2
  simp only [List.nil_append] at k1 k2 k3
  constructor
  · intro hG
    have hwj := hG.2.1
    have key : ∀ F, F ∈ Lt.filter q ↔ ww_TF wo co mE T (a + w j) j (U ||| 2 ^ j) (Bw (a + w j) j (U ||| 2 ^ j)) (Bc (a + w j) j (U ||| 2 ^ j)) F := by
      intro F
      rw [List.mem_filter, t3 F, qt F]
      have := ww_pick_C S n free w met nw bar least most wo co mE T hn hc.2.1 ha hf hb hU6 hj hG.2.1 hG.2.2.1 hG.2.2.2.1 (hw j hj).2.1 hV (hB a b U (by omega) hb hU) (v' := Bw (a + w j) j (U ||| 2 ^ j)) (c' := Bc (a + w j) j (U ||| 2 ^ j)) ⟨hG.1, hG.2.2.2.2⟩ F
      rw [← this]
      constructor
      · rintro ⟨g1, g2⟩
        exact ⟨g1, g2.1, g2.2.2.2.2.1, g2.2.2.2.2.2⟩
      · rintro ⟨g1, g2⟩
        exact ⟨g1, g2.1, hG.2.1, hG.2.2.1, hG.2.2.2.1, g2.2.1, g2.2.2⟩
    refine ⟨Lt.filter q, v', ?_, Nat.le_trans (List.length_filter_le _ _) t1, k2, key⟩
    have hne : (Lt.filter q).length ≠ 0 := by
      intro h0
      obtain ⟨F, hF⟩ := ww_pick_B S n free w met nw bar least most wo co mE T hn (p_or64 hU6 (show j < 6 by omega)) (show j < 8 by omega) (show a + w j ≤ S by omega) hV (hB (a + w j) j (U ||| 2 ^ j) (by omega) (by omega) (p_b7 U hU6 n (by omega) hU j hj)) hG.2.2.2.2.1
      have := List.length_pos_of_mem ((key F).2 hF)
      omega
    unfold f_Planner_keepSets
    rw [if_neg hne] at k1
    exact k1
  · intro hG
    have he0 : (Lt.filter q).length = 0 := by
      rw [List.length_eq_zero_iff, List.filter_eq_nil_iff]
      intro F hF hqF
      have hP := (qt F).1 hqF
      refine hG ?_
      have hwj := hP.2.1
      obtain ⟨g1, g2, g3, g4⟩ := ww_pick_A S n free w met nw bar least most wo co mE T hn hc.2.1 ha hf hb hU6 hj hP.2.1 hP.2.2.1 hP.2.2.2.1 (hw j hj).2.1 hV (hB a b U (by omega) hb hU) (hB (a + w j) j (U ||| 2 ^ j) (by omega) (by omega) (p_b7 U hU6 n (by omega) hU j hj)) ((t3 F).1 hF) ⟨hP.1, hP.2.2.2.2.1, hP.2.2.2.2.2⟩
      exact ⟨g1, hP.2.1, hP.2.2.1, hP.2.2.2.1, g2, g3, g4⟩
    unfold f_Planner_keepSets
    rw [if_pos he0, k3 he0] at k1
    exact k1
theorem t_keepF (he : t_env N S n free w met nw bar least most T v_iwid v_ibar v_inea v_tval v_tfit v_tlon) (hB : ∀ a b U, a ≤ S → b < 8 → U < 2 ^ n → ww_B S n free w met nw bar least most wo co mE a b U (Bw a b U) (Bc a b U)) {a b U f : Nat} (ha : a < S) (hf : free a = false) (hb : b < 8) (hb6 : b ≠ 6) (hU : U < 2 ^ n) (hf1 : least ≤ f) (hf2 : f ≤ most) (hf3 : f ≤ ww_op free (S - a) a) (vms : Int32) (pco ptc : Int32) (pww pwc bw bc : Int64) {Lt : List Nat} {vt : Nat → Int32} (ht : ww_td wo co mE T Bw Bc a b U Lt vt) :
    (ww_GF S free Bw Bc a b U f → ∃ Lt' vt', f_Planner_keepSets N 6 8 64 ((S + 1) * 512) S 64 vms (p_I n) v_iwid v_ibar v_inea v_tval v_tfit pco ptc (p_I U) pww pwc (p_I Lt.length) bw bc (p_I a) (p_I b) vt (-1) (p_I f) = some (true, p_I (List.length Lt'), vt') ∧ ww_td wo co mE T Bw Bc (a + f) 6 U Lt' vt') ∧
    (¬ ww_GF S free Bw Bc a b U f → f_Planner_keepSets N 6 8 64 ((S + 1) * 512) S 64 vms (p_I n) v_iwid v_ibar v_inea v_tval v_tfit pco ptc (p_I U) pww pwc (p_I Lt.length) bw bc (p_I a) (p_I b) vt (-1) (p_I f) = some (false, p_I Lt.length, vt)) := by
  obtain ⟨hN, hS, hc, hsy, hw, hle, hmo, htb, hV, hff⟩ := he
  obtain ⟨t1, t2, t3⟩ := ht
  have hn := hc.1
  have h64 := p_2n n (by omega)
  have hU6 : U < 64 := by omega
  have hop := ww_op_le free (S - a) a
  let P : Nat → Prop := fun F => (b ≠ 6 ∧ 0 ≤ T (a + f) (p_df F U) 6 ∧ T (a + f) (p_df F U) 6 = T a (p_df F U) b)
  let q : Nat → Bool := fun F => @decide (P F) (Classical.propDecidable _)
  have qt : ∀ F, q F = true ↔ P F := fun F => @decide_eq_true_iff (P F) (Classical.propDecidable _)
  have hq : ∀ F, F ∈ Lt → ((-1 : Int32) = -1 → f_Table_isFillerBest N ((S + 1) * 512) v_tval (p_I a) (p_I F &&& (p_I U ^^^ (-1))) (p_I b) (p_I f) = some (q F)) ∧ ((-1 : Int32) ≠ -1 → f_Table_isItemBest N 6 8 64 ((S + 1) * 512) S vms (p_I n) v_iwid v_ibar v_inea v_tval v_tfit (p_I a) (p_I F &&& (p_I U ^^^ (-1))) (p_I b) (-1) = some (q F)) := by
    intro F hF
    have hF6 := ((t3 F).1 hF).1
    refine ⟨fun _ => ?_, fun hx => absurd rfl hx⟩
    rw [p_dif F hF6 U hU6]
    obtain ⟨r, r1, r2⟩ := t_ifb N hS htb (a := a) (l := p_df F U) (b := b) (f := f) (by omega) (p_d0 F hF6 U hU6) hb
    have e : r = q F := by
      cases hr : r with
      | true => exact ((qt F).2 (r2.1 hr)).symm
      | false =>
        cases hqF : q F with
        | false => rfl
        | true => rw [r2.2 ((qt F).1 hqF)] at hr; cases hr
    rw [← e]
    exact r1
  obtain ⟨v', k1, k2, k3⟩ := t_keep_cut N S vms (p_I n) v_iwid v_ibar v_inea v_tval v_tfit pco ptc (p_I U) pww pwc bw bc (p_I a) (p_I b) (-1) (p_I f) q Lt.length t1 Lt N 0 [] vt hq (by omega) (Nat.zero_le _) (by omega) (fun i x hx => by simp at hx) t2
  simp only [List.nil_append] at k1 k2 k3
  constructor
  · intro hG
    have key : ∀ F, F ∈ Lt.filter q ↔ ww_TF wo co mE T (a + f) 6 U (Bw (a + f) 6 U) (Bc (a + f) 6 U) F := by
      intro F
      rw [List.mem_filter, t3 F, qt F]
      have := ww_fill_C S n free w met nw bar least most wo co mE T ha hf hb hU6 hf1 hf2 hf3 hb6 hV (hB a b U (by omega) hb hU) (v' := Bw (a + f) 6 U) (c' := Bc (a + f) 6 U) hG.2 F
      rw [← this]
      constructor
      · rintro ⟨g1, g2⟩
        exact ⟨g1, g2.2.1, g2.2.2⟩
      · rintro ⟨g1, g2⟩
        exact ⟨g1, hb6, g2.1, g2.2⟩
    refine ⟨Lt.filter q, v', ?_, Nat.le_trans (List.length_filter_le _ _) t1, k2, key⟩
    have hne : (Lt.filter q).length ≠ 0 := by
      intro h0
      obtain ⟨F, hF⟩ := ww_pick_B S n free w met nw bar least most wo co mE T hn hU6 (show 6 < 8 by omega) (show a + f ≤ S by omega) hV (hB (a + f) 6 U (by omega) (by omega) hU) hG.2.1
      have := List.length_pos_of_mem ((key F).2 hF)
      omega
    unfold f_Planner_keepSets
    rw [if_neg hne] at k1
    exact k1
  · intro hG
    have he0 : (Lt.filter q).length = 0 := by
      rw [List.length_eq_zero_iff, List.filter_eq_nil_iff]
      intro F hF hqF
      have hP := (qt F).1 hqF
      refine hG ⟨hf3, ?_⟩
      exact ww_fill_A S n free w met nw bar least most wo co mE T hn ha hf hb hU6 hf1 hf2 hf3 hb6 hV (hB a b U (by omega) hb hU) (hB (a + f) 6 U (by omega) (by omega) hU) ((t3 F).1 hF) ⟨hP.2.1, hP.2.2⟩
    unfold f_Planner_keepSets
    rw [if_pos he0, k3 he0] at k1
    exact k1
theorem t_takeI_cut (he : t_env N S n free w met nw bar least most T v_iwid v_ibar v_inea v_tval v_tfit v_tlon) (hB : ∀ a b U, a ≤ S → b < 8 → U < 2 ^ n → ww_B S n free w met nw bar least most wo co mE a b U (Bw a b U) (Bc a b U)) {a b U : Nat} (ha : a < S) (hf : free a = false) (hb : b < 8) (hU : U < 2 ^ n) (vms : Int32) (pww pwc bw bc : Int64) {Lt : List Nat} {vt : Nat → Int32} (ht : ww_td wo co mE T Bw Bc a b U Lt vt) {L : List (Int × Nat × Nat)} (hli : ww_li L a) {cnt tc is : Int32} {ppi ppb pps ptb pts pbo : Nat → Int32} (hps : ww_ps L U cnt tc is ppi ppb pps ptb pts pbo) :
    ∀ d m e : Nat, e + d = n → d < m →
    (∀ k, e ≤ k → k < n → ww_GI S free w met nw bar wo co Bw Bc a b U k → (∀ j, e ≤ j → j < k → ¬ ww_GI S free w met nw bar wo co Bw Bc a b U j) → ∃ cnt' tc' is' ppi' ppb' pps' ptb' pts' pbo' Lt' vt', f_Planner_takeItem_cut N 6 8 64 ((S + 1) * 512) S 40 40 40 40 40 6 64 vms (p_I n) v_iwid v_ibar v_inea v_tval v_tfit pww pwc bw bc m 0 (p_I e) cnt tc is ppi ppb pps ptb pts pbo (p_I Lt.length) (p_I a) (p_I b) vt = some (true, cnt', tc', is', ppi', ppb', pps', ptb', pts', pbo', p_I (List.length Lt'), p_I ((a + w k : Nat) : Int), p_I k, vt') ∧ ww_ps (L ++ [((k : Int), a, w k)]) (U ||| 2 ^ k) cnt' tc' is' ppi' ppb' pps' ptb' pts' pbo' ∧ ww_td wo co mE T Bw Bc (a + w k) k (U ||| 2 ^ k) Lt' vt') ∧
    ((∀ k, e ≤ k → k < n → ¬ ww_GI S free w met nw bar wo co Bw Bc a b U k) → f_Planner_takeItem_cut N 6 8 64 ((S + 1) * 512) S 40 40 40 40 40 6 64 vms (p_I n) v_iwid v_ibar v_inea v_tval v_tfit pww pwc bw bc m 0 (p_I e) cnt tc is ppi ppb pps ptb pts pbo (p_I Lt.length) (p_I a) (p_I b) vt = some (false, cnt, tc, is, ppi, ppb, pps, ptb, pts, pbo, p_I Lt.length, p_I a, p_I b, vt))
  | 0, m + 1, e, h, _ => by
    have hn := he.2.2.1.1
    refine ⟨fun k h1 h2 => by omega, fun _ => ?_⟩
    rw [f_Planner_takeItem_cut_0, if_pos (by rw [p_Ile] <;> omega)]
  | d + 1, m + 1, e, h, hm => by
    have hn := he.2.2.1.1
    have hS := he.2.1
    have hw := he.2.2.2.2.1
    have h64 := p_2n n (by omega)
    obtain ⟨k1, k2⟩ := t_keepI he hB ha hf hb hU (j := e) (by omega) vms cnt tc pww pwc bw bc ht
    obtain ⟨i1, i2⟩ := t_takeI_cut he hB ha hf hb hU vms pww pwc bw bc ht hli hps d m (e + 1) (by omega) (by omega)
    obtain ⟨w1, w2, w3⟩ := hw e (by omega)
    have his : is = p_I U := hps.2.2.1
    subst his
    rw [f_Planner_takeItem_cut_0, if_neg (by rw [p_Ile] <;> omega), if_neg (p_in (by omega) (by omega)), p_ix e (by omega), w1, p_up]
    by_cases c : ww_GI S free w met nw bar wo co Bw Bc a b U e
    · obtain ⟨Lt', vt', q1, q2⟩ := k1 c
      rw [q1]
      simp only [Option.bind]
      obtain ⟨cnt', tc', is', ppi', ppb', pps', ptb', pts', pbo', r1, r2⟩ := t_piece N pww pwc bw bc (p_I Lt'.length) (p_I b) (show a < 40 by omega) (show 1 ≤ w e ∧ w e ≤ 40 by omega) hli (show U < 64 by omega) hps (e : Int) (U ||| 2 ^ e) e (Or.inr ⟨e, by omega, rfl, rfl, rfl⟩)
      refine ⟨fun k h1 h2 h3 h4 => ?_, fun h1 => absurd c (h1 e (Nat.le_refl _) (by omega))⟩
      obtain rfl : k = e := by
        by_cases ck : k = e
        · exact ck
        · exact absurd c (h4 e (Nat.le_refl _) (by omega))
      rw [if_neg (p_inx (by omega) (by omega)), r1]
      exact ⟨cnt', tc', is', ppi', ppb', pps', ptb', pts', pbo', Lt', vt', rfl, r2, q2⟩
    · rw [k2 c]
      simp only [Option.bind]
      rw [if_neg (by decide)]
      refine ⟨fun k h1 h2 h3 h4 => ?_, fun h1 => i2 (fun k q1 q2 => h1 k (by omega) q2)⟩
      have : k ≠ e := fun q => c (q ▸ h3)
      exact i1 k (by omega) h2 h3 (fun j q1 q2 => h4 j (by omega) q2)
theorem t_takeF_cut (he : t_env N S n free w met nw bar least most T v_iwid v_ibar v_inea v_tval v_tfit v_tlon) (hB : ∀ a b U, a ≤ S → b < 8 → U < 2 ^ n → ww_B S n free w met nw bar least most wo co mE a b U (Bw a b U) (Bc a b U)) {a b U : Nat} (ha : a < S) (hf : free a = false) (hb : b < 8) (hb6 : b ≠ 6) (hU : U < 2 ^ n) (vms : Int32) (pww pwc bw bc : Int64) {Lt : List Nat} {vt : Nat → Int32} (ht : ww_td wo co mE T Bw Bc a b U Lt vt) {L : List (Int × Nat × Nat)} (hli : ww_li L a) {cnt tc is : Int32} {ppi ppb pps ptb pts pbo : Nat → Int32} (hps : ww_ps L U cnt tc is ppi ppb pps ptb pts pbo) {f : Nat} (hf2 : f ≤ most) (hG : ww_GF S free Bw Bc a b U f) :
    ∀ d m e : Nat, e + d = f → d < m → least ≤ e → (∀ g, e ≤ g → g < f → ¬ ww_GF S free Bw Bc a b U g) →
    ∃ cnt' tc' is' ppi' ppb' pps' ptb' pts' pbo' Lt' vt', f_Planner_takeFiller_cut N 6 8 64 ((S + 1) * 512) S S 40 40 40 40 40 6 64 vms (p_I n) v_iwid v_ibar v_inea (p_I least) (p_I most) v_tval v_tfit v_tlon pww pwc bw bc m 0 (p_I e) cnt tc is ppi ppb pps ptb pts pbo (p_I Lt.length) (p_I a) (p_I b) vt = some (true, cnt', tc', is', ppi', ppb', pps', ptb', pts', pbo', p_I (List.length Lt'), p_I ((a + f : Nat) : Int), p_I 6, vt') ∧ ww_ps (L ++ [(-1, a, f)]) U cnt' tc' is' ppi' ppb' pps' ptb' pts' pbo' ∧ ww_td wo co mE T Bw Bc (a + f) 6 U Lt' vt'
  | d, m, e, h, hm, hle, hno => by
    obtain ⟨m, rfl⟩ : ∃ m', m = m' + 1 := ⟨m - 1, by omega⟩
    have hn := he.2.2.1.1
    have hS := he.2.1
    have hl1 := he.2.2.2.2.2.1
    have hmo := he.2.2.2.2.2.2.1
    have h64 := p_2n n (by omega)
    have hop := ww_op_le free (S - a) a
    have hf3 := hG.1
    have hff := (he.2.2.2.2.2.2.2.2.2 a ha hf).2
    obtain ⟨k1, k2⟩ := t_keepF he hB ha hf hb hb6 hU (f := e) hle (by omega) (by omega) vms cnt tc pww pwc bw bc ht
    have his : is = p_I U := hps.2.2.1
    subst his
    rw [f_Planner_takeFiller_cut_0, if_neg (p_in ha (by omega)), p_ix a (by omega), hff, if_neg (by rw [p_Ilt] <;> omega)]
    cases d with
    | zero =>
      obtain rfl : e = f := by omega
      obtain ⟨Lt', vt', q1, q2⟩ := k1 hG
      rw [q1]
      simp only [Option.bind, if_true]
      obtain ⟨cnt', tc', is', ppi', ppb', pps', ptb', pts', pbo', r1, r2⟩ := t_piece N pww pwc bw bc (p_I Lt'.length) (p_I b) (show a < 40 by omega) (show 1 ≤ e ∧ e ≤ 40 by omega) hli (show U < 64 by omega) hps (-1) U 6 (Or.inl ⟨rfl, rfl, rfl⟩)
      rw [p_m1, r1]
      exact ⟨cnt', tc', is', ppi', ppb', pps', ptb', pts', pbo', Lt', vt', rfl, r2, q2⟩
    | succ d =>
      rw [k2 (hno e (Nat.le_refl _) (by omega))]
      simp only [Option.bind]
      rw [if_neg (by decide), p_up]
      exact t_takeF_cut he hB ha hf hb hb6 hU vms pww pwc bw bc ht hli hps hf2 hG d m (e + 1) (by omega) (by omega) (by omega) (fun g q1 q2 => hno g (by omega) q2)
termination_by d => d
end
