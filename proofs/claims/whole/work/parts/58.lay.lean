theorem t_free (N : Nat) (vpc : Int32) {S a : Nat} {free : Nat → Bool} {v_wfree : Nat → Int32} (hS : S ≤ 40) (hf : ∀ k, k < S → (v_wfree k = 0 ↔ free k = false)) (ha : a < S) : f_Wall_isFree N S (p_I S) vpc v_wfree (p_I a) = some (free a) := by
  unfold f_Wall_isFree f_Wall_isStep
  rw [if_neg (by rw [p_0, p_Ilt] <;> omega), if_neg (by rw [p_Ile] <;> omega)]
  simp only [Option.bind, if_true]
  rw [if_neg (p_in ha (by omega)), p_ix a (by omega)]
  cases c : free a with
  | false => rw [if_pos ((hf a ha).2 c)]
  | true => rw [if_neg (fun q => by rw [(hf a ha).1 q] at c; cases c)]
section
variable {N S n : Nat} {free : Nat → Bool} {w : Nat → Nat} {met : Nat → Nat → Bool} {nw : Nat → Nat → Int} {bar : Nat → Nat → Bool} {least most : Nat} {wo co : Nat → Int} {mE : Nat → Bool} {T Bw Bc : Nat → Nat → Nat → Int} {v_iwid v_ibar : Nat → Int32} {v_inea v_tval : Nat → Int64} {v_tfit v_tlon : Nat → Int32}
theorem t_lay_cut (he : t_env N S n free w met nw bar least most T v_iwid v_ibar v_inea v_tval v_tfit v_tlon) (hB : ∀ a b U, a ≤ S → b < 8 → U < 2 ^ n → ww_B S n free w met nw bar least most wo co mE a b U (Bw a b U) (Bc a b U)) {v_wfree : Nat → Int32} (hfr : ∀ k, k < S → (v_wfree k = 0 ↔ free k = false)) (vpc vms : Int32) (pww pwc bw bc : Int64) :
    ∀ (m fu a b U s : Nat) (L L1 : List (Int × Nat × Nat)) (U' : Nat) (Lt : List Nat) (vt : Nat → Int32) (cnt tc is : Int32) (ppi ppb pps ptb pts pbo : Nat → Int32), ww_path S n free w met nw bar least most wo co Bw Bc m a b U L1 U' → s + m ≤ S → m < fu → a ≤ S → b < 8 → U < 2 ^ n → 0 ≤ Bw a b U → ww_td wo co mE T Bw Bc a b U Lt vt → ww_li L a → ww_ps L U cnt tc is ppi ppb pps ptb pts pbo →
    ∃ cnt' tc' is' ppi' ppb' pps' ptb' pts' pbo' tn' at' bf' vt', f_Planner_layOut_cut N S 6 8 64 ((S + 1) * 512) S S 40 40 40 40 40 6 64 (p_I S) vpc v_wfree vms (p_I n) v_iwid v_ibar v_inea (p_I least) (p_I most) v_tval v_tfit v_tlon bw bc fu 0 (p_I s) cnt tc is pww pwc ppi ppb pps ptb pts pbo (p_I Lt.length) (p_I a) (p_I b) vt = some (cnt', tc', is', pww, pwc, ppi', ppb', pps', ptb', pts', pbo', tn', at', bf', vt') ∧ ww_ps (L ++ L1) U' cnt' tc' is' ppi' ppb' pps' ptb' pts' pbo'
  | 0, fu + 1, a, b, U, s, L, L1, U', Lt, vt, cnt, tc, is, ppi, ppb, pps, ptb, pts, pbo, hp, hs, hm, ha, hb, hU, hv, ht, hli, hps => by
    obtain ⟨rfl, rfl, rfl⟩ := hp
    have hS := he.2.1
    refine ⟨cnt, tc, is, ppi, ppb, pps, ptb, pts, pbo, p_I Lt.length, p_I a, p_I b, vt, ?_, by rw [List.append_nil]; exact hps⟩
    rw [f_Planner_layOut_cut_0]
    by_cases c : a ≤ s
    · rw [if_pos (by rw [p_Ile] <;> omega)]
    · rw [if_neg (by rw [p_Ile] <;> omega), if_pos (by rw [p_Ile] <;> omega)]
  | m + 1, fu + 1, a, b, U, s, L, L1, U', Lt, vt, cnt, tc, is, ppi, ppb, pps, ptb, pts, pbo, hp, hs, hm, ha, hb, hU, hv, ht, hli, hps => by
    obtain ⟨ha2, hp⟩ := hp
    have hS := he.2.1
    have hn := he.2.2.1.1
    have hw := he.2.2.2.2.1
    have hV := he.2.2.2.2.2.2.2.2.1
    have hN := he.1
    have h64 := p_2n n (by omega)
    rw [f_Planner_layOut_cut_0, if_neg (by rw [p_Ile] <;> omega), if_neg (by rw [p_Ile] <;> omega), t_free N vpc hS hfr ha2]
    simp only [Option.bind]
    rcases hp with ⟨hf, hp⟩ | ⟨hf, p, a1, b1, U1, L2, hst, hL, hp⟩
    · rw [hf, if_pos rfl, p_up, p_up]
      have h1 := hB a b U ha hb hU
      have h2 := hB (a + 1) 7 U (by omega) (by omega) hU
      have h3 := (ww_lex_iff (ww_C_free S n free w met nw bar least most wo co mE ha2 hf b U) _ _).1 h1
      obtain ⟨h4, h5⟩ := ww_lex_uniq h3 h2
      have h5 := h5 hv
      refine t_lay_cut he hB hfr vpc vms pww pwc bw bc m fu (a + 1) 7 U (s + 1) L L1 U' Lt vt cnt tc is ppi ppb pps ptb pts pbo hp (by omega) (by omega) (by omega) (by omega) hU (by omega) ⟨ht.1, ht.2.1, fun F => ?_⟩ ⟨by have := hli.1; omega, hli.2.1, fun j q hq => by have := hli.2.2 j q hq; omega⟩ hps
      rw [ht.2.2 F]
      unfold ww_TF
      rw [h4, h5]
      have hTT : F < 64 → T a (p_df F U) b = T (a + 1) (p_df F U) 7 := by
        intro hF
        have v1 := hV a (p_df F U) b ha (p_d0 F hF U (by omega)) hb
        have v2 := hV (a + 1) (p_df F U) 7 (by omega) (p_d0 F hF U (by omega)) (by omega)
        exact ww_sup_uniq ((ww_sup_iff (fun x => ww_Y_free S n free w met nw bar least most ha2 hf b (p_df F U) x) _).1 v1) v2
      constructor
      · rintro ⟨q1, q2⟩
        rw [hTT q1] at q2
        exact ⟨q1, q2⟩
      · rintro ⟨q1, q2⟩
        rw [← hTT q1] at q2
        exact ⟨q1, q2⟩
    · rw [hf, if_neg (by decide)]
      obtain ⟨i1, i2⟩ := t_takeI_cut he hB ha2 hf hb hU vms pww pwc bw bc ht hli hps n N 0 (by omega) (by omega)
      unfold f_Planner_takeItem
      have hop := ww_op_le free (S - a) a
      rcases hst with ⟨k, k1, k2, k3, k4, k5, k6, k7⟩ | ⟨hno, hb6, f, f1, f2, f3, f4, f5, f6, f7, f8⟩
      · obtain ⟨cnt1, tc1, is1, ppi1, ppb1, pps1, ptb1, pts1, pbo1, Lt1, vt1, j1, j2, j3⟩ := i1 k (Nat.zero_le _) k1 k2 (fun j _ hj => k3 j hj)
        rw [show (0 : Int32) = p_I ((0 : Nat) : Int) by decide, j1]
        simp only [if_true]
        subst k5; subst k6; subst k7
        rw [p_up]
        obtain ⟨w1, w2, w3⟩ := hw b1 k1
        have hwk := k2.2.1
        obtain ⟨cnt2, tc2, is2, ppi2, ppb2, pps2, ptb2, pts2, pbo2, tn2, at2, bf2, vt2, l1, l2⟩ := t_lay_cut he hB hfr vpc vms pww pwc bw bc m fu (a + w b1) b1 (U ||| 2 ^ b1) (s + 1) (L ++ [p]) L2 U' Lt1 vt1 cnt1 tc1 is1 ppi1 ppb1 pps1 ptb1 pts1 pbo1 hp (by omega) (by omega) (by omega) (by omega) (p_b7 U (by omega) n (by omega) hU b1 k1) k2.2.2.2.2.1 j3 (by rw [k4]; exact ww_li_add w2 hli _) (by rw [k4]; exact j2)
        refine ⟨cnt2, tc2, is2, ppi2, ppb2, pps2, ptb2, pts2, pbo2, tn2, at2, bf2, vt2, l1, ?_⟩
        rw [hL]
        simpa using l2
      · rw [show (0 : Int32) = p_I ((0 : Nat) : Int) by decide, i2 (fun k _ hk => hno k hk)]
        simp only []
        rw [if_neg (by decide)]
        unfold f_Planner_takeFiller
        have hf3 := f3.1
        have hl1 := he.2.2.2.2.2.1
        have hmo := he.2.2.2.2.2.2.1
        obtain ⟨cnt1, tc1, is1, ppi1, ppb1, pps1, ptb1, pts1, pbo1, Lt1, vt1, j1, j2, j3⟩ := t_takeF_cut he hB ha2 hf hb hb6 hU vms pww pwc bw bc ht hli hps f2 f3 (f - least) N least (by omega) (by omega) (Nat.le_refl _) f4
        rw [j1]
        simp only [if_true]
        subst f6; subst f7; subst f8
        rw [p_up]
        obtain ⟨cnt2, tc2, is2, ppi2, ppb2, pps2, ptb2, pts2, pbo2, tn2, at2, bf2, vt2, l1, l2⟩ := t_lay_cut he hB hfr vpc vms pww pwc bw bc m fu (a + f) 6 U1 (s + 1) (L ++ [p]) L2 U' Lt1 vt1 cnt1 tc1 is1 ppi1 ppb1 pps1 ptb1 pts1 pbo1 hp (by omega) (by omega) (by omega) (by omega) hU f3.2.1 j3 (by rw [f5]; exact ww_li_add (by omega) hli _) (by rw [f5]; exact j2)
        refine ⟨cnt2, tc2, is2, ppi2, ppb2, pps2, ptb2, pts2, pbo2, tn2, at2, bf2, vt2, l1, ?_⟩
        rw [hL]
        simpa using l2
theorem ww_lay (he : t_env N S n free w met nw bar least most T v_iwid v_ibar v_inea v_tval v_tfit v_tlon) (hB : ∀ a b U, a ≤ S → b < 8 → U < 2 ^ n → ww_B S n free w met nw bar least most wo co mE a b U (Bw a b U) (Bc a b U)) {v_wfree : Nat → Int32} (hfr : ∀ k, k < S → (v_wfree k = 0 ↔ free k = false)) (vpc vms : Int32) (pww pwc bw bc : Int64) {m : Nat} {L1 : List (Int × Nat × Nat)} {U' : Nat} {Lt : List Nat} {vt : Nat → Int32} (cnt tc is : Int32) (ppi ppb pps ptb pts pbo : Nat → Int32) (va vb : Int32) (hp : ww_path S n free w met nw bar least most wo co Bw Bc m 0 7 0 L1 U') (hm : m ≤ S) (hv : 0 ≤ Bw 0 7 0) (ht : ww_td wo co mE T Bw Bc 0 7 0 Lt vt) :
    ∃ cnt' tc' is' ppi' ppb' pps' ptb' pts' pbo' tn' at' bf' vt', f_Planner_layOut N S 6 8 64 ((S + 1) * 512) S S 40 40 40 40 40 6 64 (p_I S) vpc v_wfree vms (p_I n) v_iwid v_ibar v_inea (p_I least) (p_I most) v_tval v_tfit v_tlon cnt tc is pww pwc ppi ppb pps ptb pts pbo (p_I Lt.length) bw bc va vb vt = some (cnt', tc', is', bw, bc, ppi', ppb', pps', ptb', pts', pbo', tn', at', bf', vt') ∧ ww_ps L1 U' cnt' tc' is' ppi' ppb' pps' ptb' pts' pbo' := by
  have hN := he.1
  have hS := he.2.1
  obtain ⟨pb1, z1, z2⟩ := t_fillI N 6 (-1) (by omega) hN pbo
  unfold f_Planner_layOut f_Plan_clear
  rw [z1]
  simp only [Option.bind]
  exact t_lay_cut he hB hfr vpc vms bw bc bw bc m N 0 7 0 0 [] L1 U' Lt vt 0 0 0 ppi ppb pps ptb pts pb1 hp (by omega) (by omega) (by omega) (by omega) (Nat.pow_pos (by omega)) hv ht ⟨Nat.zero_le _, Nat.le_refl _, fun j q hq => by simp [ww_tops] at hq⟩ ⟨rfl, rfl, rfl, fun j p hp => by simp at hp, fun j q hq => by simp [ww_tops] at hq, fun k hk => by rw [z2 k, if_pos hk]; rfl⟩
end
