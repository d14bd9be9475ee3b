theorem t_choose_cut (N : Nat) (hN : 30000 ≤ N) {S n : Nat} (hS : S ≤ 40) (hn : n ≤ 6) {T : Nat → Nat → Nat → Int} {v_tval : Nat → Int64} (htb : t_tb S v_tval T) {wo co : Nat → Int} (hwo : ∀ k, 0 ≤ wo k ∧ wo k ≤ 100000) (hco : ∀ k, 0 ≤ co k ∧ co k ≤ 100000) {v_iswo v_isce : Nat → Int64} (hsw : ∀ s, s < 2 ^ n → v_iswo s = p_J (p_sum wo s) ∧ v_isce s = p_J (p_sum co s)) {M : Nat} (hM : M < 2 ^ n) {ul : Int} (hul : 0 ≤ ul ∧ ul ≤ 6) {td : List Nat} (htd : ∀ t, t ∈ td → t < 64) (htl : td.length ≤ 16) {v_told : Nat → Int32} (hto : ww_en td v_told 0) (va vb : Int32) :
    ∀ d m e : Nat, ∀ (Lt : List Nat) (vt : Nat → Int32) (bw bc : Int64), e + d = 2 ^ n → d < m → ww_ti n M ul td wo co T e Lt vt bw bc →
    ∃ Lt' vt' bw' bc', f_Planner_chooseSets_cut N 16 64 64 ((S + 1) * 512) 64 v_told (p_I M) (p_I n) v_iswo v_isce v_tval va vb m 0 (p_I td.length) (p_I ul) (p_I e) (p_I Lt.length) bw bc vt = some (decide (Lt' ≠ []), p_I (List.length Lt'), bw', bc', vt') ∧ ww_ti n M ul td wo co T (2 ^ n) Lt' vt' bw' bc'
  | 0, m + 1, e, Lt, vt, bw, bc, h, _, hti => by
    have h64 := p_2n n (by omega)
    have hl := hti.1
    refine ⟨Lt, vt, bw, bc, ?_, by rw [← h]; exact hti⟩
    rw [f_Planner_chooseSets_cut_0, p_bit n (by omega), if_pos (by rw [p_Ile] <;> omega)]
    by_cases c : Lt = []
    · subst c
      rw [if_pos (by decide), decide_eq_false (by simp)]
    · have : Lt.length ≠ 0 := fun q => c (List.length_eq_zero_iff.1 q)
      rw [if_neg (by rw [p_0, p_Ile] <;> omega), decide_eq_true c]
  | d + 1, m + 1, e, Lt, vt, bw, bc, h, hm, hti => by
    have h64 := p_2n n (by omega)
    have hmu := p_mu n (by omega) M (by omega) hM e (by omega)
    have hdf := p_d0 M (by omega) e (by omega)
    have hskip : ww_mE n M ul td e = false → ∃ Lt' vt' bw' bc', f_Planner_chooseSets_cut N 16 64 64 ((S + 1) * 512) 64 v_told (p_I M) (p_I n) v_iswo v_isce v_tval va vb m 0 (p_I td.length) (p_I ul) (p_I ((e + 1 : Nat) : Int)) (p_I Lt.length) bw bc vt = some (decide (Lt' ≠ []), p_I (List.length Lt'), bw', bc', vt') ∧ ww_ti n M ul td wo co T (2 ^ n) Lt' vt' bw' bc' := by
      intro hf
      exact t_choose_cut N hN hS hn htb hwo hco hsw hM hul htd htl hto va vb d m (e + 1) Lt vt bw bc (by omega) (by omega) (ww_ti_skip hti (fun x y q => by have := q.1; rw [hf] at this; cases this))
    rw [f_Planner_chooseSets_cut_0, p_bit n (by omega), if_neg (by rw [p_Ile] <;> omega), p_dif M (by omega) e (by omega), p_up]
    by_cases c1 : p_df M e = 0
    · rw [if_pos (by rw [show (M &&& (63 ^^^ e)) = p_df M e from rfl, c1]; rfl)]
      unfold f_Planner_isUnlike
      rw [show (0 : Int32) = p_I ((0 : Nat) : Int) by decide, t_unl_cut N (by omega) hul v_told htl td N 0 htd (by omega) (by omega) hto]
      simp only [Option.bind]
      cases cu : ww_un ul td e with
      | false =>
        rw [if_neg (by decide)]
        refine hskip ?_
        unfold ww_mE; rw [cu, Bool.and_false]
      | true =>
        rw [if_pos rfl]
        have hmE : ww_mE n M ul td e = true := by unfold ww_mE; rw [cu, hmu.1 c1]; rfl
        obtain ⟨Lt1, vt1, bw1, bc1, k1, k2⟩ := t_offer N hS hn (p_I M) (p_I n) htb hwo hco hsw (by omega) hmE va vb hti
        rw [k1]
        simp only []
        exact t_choose_cut N hN hS hn htb hwo hco hsw hM hul htd htl hto va vb d m (e + 1) Lt1 vt1 bw1 bc1 (by omega) (by omega) k2
    · rw [if_neg (by rw [show (M &&& (63 ^^^ e)) = p_df M e from rfl, p_0, p_Ieq] <;> omega)]
      refine hskip ?_
      cases cm : ww_mu n M e with
      | false => unfold ww_mE; rw [cm, Bool.false_and]
      | true => exact absurd (hmu.2 cm) c1
theorem ww_cs_C {S n : Nat} {free : Nat → Bool} {w : Nat → Nat} {met : Nat → Nat → Bool} {nw : Nat → Nat → Int} {bar : Nat → Nat → Bool} {least most : Nat} {wo co : Nat → Int} {M : Nat} {ul : Int} {td : List Nat} {T : Nat → Nat → Nat → Int} (hn : n ≤ 6) (hV : ∀ a l b, a ≤ S → l < 64 → b < 8 → ww_V S n free w met nw bar least most a l b (T a l b)) {v c : Int} (h : ww_lex (ww_cs n M ul td wo co T (2 ^ n)) v c) :
    ww_B S n free w met nw bar least most wo co (ww_mE n M ul td) 0 7 0 v c := by
  have h64 := p_2n n (by omega)
  have key : ∀ p q, ww_C S n free w met nw bar least most wo co (ww_mE n M ul td) 0 7 0 p q → ∃ p', p ≤ p' ∧ ww_cs n M ul td wo co T (2 ^ n) p' q := by
    rintro p q ⟨D, z, h1, h2, h3, h4, h5, h6⟩
    rw [Nat.or_zero] at h4
    have v1 := ww_V_ge (hV 0 D 7 (by omega) h1 (by omega)) h2
    obtain ⟨m, hm⟩ := h2
    have hD := ww_W_lt S n free w met nw bar least most hn m _ _ _ _ hm h1
    exact ⟨p_sum wo D + T 0 D 7, by omega, D, hD, h4, v1.1, rfl, h6⟩
  have back : ∀ p q, ww_cs n M ul td wo co T (2 ^ n) p q → ww_C S n free w met nw bar least most wo co (ww_mE n M ul td) 0 7 0 p q := by
    rintro p q ⟨F, h1, h2, h3, h4, h5⟩
    exact ⟨F, T 0 F 7, by omega, ww_V_Y (hV 0 F 7 (by omega) (by omega) (by omega)) h3, Nat.and_zero F, by rw [Nat.or_zero]; exact h2, h4, h5⟩
  rcases h with ⟨h1, h2⟩ | ⟨h1, h2, h3⟩
  · refine Or.inl ⟨h1, fun p q hpq => ?_⟩
    obtain ⟨p', -, h4⟩ := key p q hpq
    exact h2 p' q h4
  · refine Or.inr ⟨h1, back v c h2, fun p q hpq => ?_⟩
    obtain ⟨p', h4, h5⟩ := key p q hpq
    have := h3 p' q h5
    omega
theorem p_df0 : ∀ f : Nat, f < 64 → p_df f 0 = f := by decide
theorem t_choose (N : Nat) (hN : 30000 ≤ N) {S n : Nat} (hS : S ≤ 40) (hn : n ≤ 6) {free : Nat → Bool} {w : Nat → Nat} {met : Nat → Nat → Bool} {nw : Nat → Nat → Int} {bar : Nat → Nat → Bool} {least most : Nat} {T : Nat → Nat → Nat → Int} {v_tval : Nat → Int64} (htb : t_tb S v_tval T) (hV : ∀ a l b, a ≤ S → l < 64 → b < 8 → ww_V S n free w met nw bar least most a l b (T a l b)) {wo co : Nat → Int} (hwo : ∀ k, 0 ≤ wo k ∧ wo k ≤ 100000) (hco : ∀ k, 0 ≤ co k ∧ co k ≤ 100000) {v_iswo v_isce : Nat → Int64} (hsw : ∀ s, s < 2 ^ n → v_iswo s = p_J (p_sum wo s) ∧ v_isce s = p_J (p_sum co s)) {M : Nat} (hM : M < 2 ^ n) {ul : Int} (hul : 0 ≤ ul ∧ ul ≤ 6) {td : List Nat} (htd : ∀ t, t ∈ td → t < 64) (htl : td.length ≤ 16) {v_told : Nat → Int32} (hto : ww_en td v_told 0) (tn : Int32) (bw bc : Int64) (va vb : Int32) (vt : Nat → Int32) {Bw Bc : Nat → Nat → Nat → Int} (hB : ww_B S n free w met nw bar least most wo co (ww_mE n M ul td) 0 7 0 (Bw 0 7 0) (Bc 0 7 0)) :
    ∃ Lt' vt' bw' bc', f_Planner_chooseSets N 16 64 64 ((S + 1) * 512) 64 v_told (p_I M) (p_I n) v_iswo v_isce v_tval tn bw bc va vb vt (p_I td.length) (p_I ul) = some (decide (0 ≤ Bw 0 7 0), p_I (List.length Lt'), bw', bc', vt') ∧ (0 ≤ Bw 0 7 0 → bw' = p_J (Bw 0 7 0) ∧ bc' = p_J (Bc 0 7 0) ∧ ww_td wo co (ww_mE n M ul td) T Bw Bc 0 7 0 Lt' vt') := by
  have h64 := p_2n n (by omega)
  obtain ⟨Lt, vt1, bw1, bc1, k1, k2⟩ := t_choose_cut N hN hS hn htb hwo hco hsw hM hul htd htl hto va vb (2 ^ n) N 0 [] vt bw bc (by omega) (by omega) ⟨Nat.zero_le _, fun j x hj => by simp at hj, Or.inl ⟨rfl, fun x y q => by obtain ⟨F, q1, -⟩ := q; omega⟩⟩
  obtain ⟨l1, l2, l3⟩ := k2
  refine ⟨Lt, vt1, bw1, bc1, ?_, ?_⟩
  · unfold f_Planner_chooseSets
    have : decide (0 ≤ Bw 0 7 0) = decide (Lt ≠ []) := by
      rcases l3 with ⟨g1, g2⟩ | ⟨g1, v, c, g2, g3, g4, g5, g6⟩
      · have := (ww_lex_uniq (ww_cs_C hn hV (v := -1) (c := 0) (Or.inl ⟨rfl, g2⟩)) hB).1
        rw [decide_eq_false (by omega), decide_eq_false (by simp [g1])]
      · have := (ww_lex_uniq (ww_cs_C hn hV g5) hB).1
        rw [decide_eq_true (by omega), decide_eq_true g1]
    rw [this]
    exact k1
  · intro hv
    rcases l3 with ⟨g1, g2⟩ | ⟨g1, v, c, g2, g3, g4, g5, g6⟩
    · have := (ww_lex_uniq (ww_cs_C hn hV (v := -1) (c := 0) (Or.inl ⟨rfl, g2⟩)) hB).1
      omega
    · obtain ⟨e1, e2⟩ := ww_lex_uniq (ww_cs_C hn hV g5) hB
      have e3 := e2 g4
      subst e1; subst e3
      refine ⟨g2, g3, by omega, l2, fun F => ?_⟩
      rw [g6 F]
      unfold ww_TF ww_cd
      constructor
      · rintro ⟨q1, q2, q3, q4, q5⟩
        rw [p_df0 F (by omega)]
        exact ⟨by omega, Nat.zero_and F, q2, q3, q4, q5⟩
      · rintro ⟨q1, q2, q3, q4⟩
        rw [p_df0 F q1] at q4
        obtain ⟨m, hm⟩ := ww_V_Y (hV 0 F 7 (by omega) q1 (by omega)) q4.1
        have hD := ww_W_lt S n free w met nw bar least most hn m _ _ _ _ hm q1
        exact ⟨hD, q3, q4⟩
