def t_sym (nw : Nat → Nat → Int) (bar : Nat → Nat → Bool) : Prop := ∀ k b, k < 8 → b < 8 → bar b k = bar k b ∧ nw b k = nw k b
theorem t_iib (N : Nat) {S n : Nat} (hS : S ≤ 40) (vms : Int32) {free : Nat → Bool} {w : Nat → Nat} {met : Nat → Nat → Bool} {nw : Nat → Nat → Int} {bar : Nat → Nat → Bool} {most : Nat} {v_iwid v_ibar : Nat → Int32} {v_inea : Nat → Int64} {v_tfit v_tlon : Nat → Int32} (hc : t_cls n nw bar v_ibar v_inea) (hsy : t_sym nw bar) (hw : ∀ k, k < n → v_iwid k = p_I (w k) ∧ 1 ≤ w k ∧ w k ≤ 20) {T : Nat → Nat → Nat → Int} {v : Nat → Int64} (hv : t_tb S v T) {a l b k : Nat} (ha : a < S) (hl : l < 64) (hb : b < 8) (hk : k < n) (hff : ww_ff S n free w met most v_tfit v_tlon a) :
    ∃ r, f_Table_isItemBest N 6 8 64 ((S + 1) * 512) S vms (p_I n) v_iwid v_ibar v_inea v v_tfit (p_I a) (p_I l) (p_I b) (p_I k) = some r ∧ (r = true ↔ (Nat.testBit l k = true ∧ w k ≤ ww_op free (S - a) a ∧ met k a = true ∧ bar k b = false ∧ 0 ≤ T (a + w k) (l - 2 ^ k) k ∧ T (a + w k) (l - 2 ^ k) k + nw k b = T a l b)) := by
  have hop := ww_op_le free (S - a) a
  obtain ⟨hn, hnw, hba, hne⟩ := hc
  obtain ⟨w1, w2, w3⟩ := hw k hk
  obtain ⟨⟨fs, f1, f2, f3⟩, -⟩ := hff
  unfold f_Table_isItemBest
  rw [if_neg (p_in ha (by omega)), p_ix a (by omega), f2, p_and l hl fs f1, t_has N (p_lt64 l hl fs f1).2.1 (by omega), Nat.testBit_and, f3 k (by omega), decide_eq_true hk, Bool.true_and]
  simp only [Option.bind]
  by_cases c : (Nat.testBit l k && (decide (w k ≤ ww_op free (S - a) a) && met k a)) = true
  · rw [if_pos c]
    rw [Bool.and_eq_true, Bool.and_eq_true, decide_eq_true_eq] at c
    obtain ⟨c1, c2, c3⟩ := c
    obtain ⟨sb, s1, s2, s3⟩ := hba b hb
    unfold f_Items_isBarred
    rw [if_neg (p_in hb (by omega)), p_ix b (by omega), s2, p_bit k (by omega)]
    have hs := p_has sb s1 k (by omega)
    rw [s3 k (by omega), (hsy k b (by omega) hb).1] at hs
    cases cb : bar k b with
    | true =>
      rw [if_neg (fun q => by rw [hs.1 q] at cb; cases cb)]
      simp only [if_true]
      exact ⟨false, rfl, by simp⟩
    | false =>
      rw [if_pos (hs.2 cb)]
      simp only []
      rw [if_neg (by decide), if_neg (p_in (by omega) (by omega)), p_ix k (by omega), w1, p_addN, p_cl l hl k (by omega) c1, t_val N hv hS (by omega) (p_s64 k hl) (by omega)]
      simp only []
      have e1 := (hv (a + w k) (l - 2 ^ k) k (by omega) (p_s64 k hl) (by omega)).2
      have e2 := (hv a l b (by omega) hl hb).2
      have e3 := hnw k b
      by_cases cz : T (a + w k) (l - 2 ^ k) k = -1
      · rw [if_pos (by rw [lg_cmp_eq, p_Jm1, cz])]
        exact ⟨false, rfl, by constructor
                              · intro q; cases q
                              · intro q; omega⟩
      · rw [if_neg (by rw [lg_cmp_eq, p_Jm1, p_Jeq] <;> omega)]
        unfold f_Items_nearWorthOf
        rw [p_pair, if_neg (p_in (by omega) (by omega)), p_ix _ (by omega), hne b k hb (by omega), (hsy k b (by omega) hb).2]
        simp only []
        rw [t_val N hv hS (by omega) hl hb]
        simp only []
        rw [p_Jadd]
        by_cases ce : T (a + w k) (l - 2 ^ k) k + nw k b = T a l b
        · rw [if_pos (by rw [lg_cmp_eq, ce])]
          exact ⟨true, rfl, fun _ => ⟨c1, c2, c3, by trivial, by omega, ce⟩, fun _ => rfl⟩
        · rw [if_neg (by rw [lg_cmp_eq, p_Jeq] <;> omega)]
          exact ⟨false, rfl, by constructor
                                · intro q; cases q
                                · intro q; exact absurd q.2.2.2.2.2 ce⟩
  · rw [if_neg c]
    refine ⟨false, rfl, by constructor
                           · intro q; cases q
                           · rintro ⟨q1, q2, q3, -⟩
                             refine absurd ?_ c
                             rw [q1, q3, decide_eq_true q2]; rfl⟩
theorem t_ifb (N : Nat) {S : Nat} (hS : S ≤ 40) {T : Nat → Nat → Nat → Int} {v : Nat → Int64} (hv : t_tb S v T) {a l b f : Nat} (ha : a + f ≤ S) (hl : l < 64) (hb : b < 8) :
    ∃ r, f_Table_isFillerBest N ((S + 1) * 512) v (p_I a) (p_I l) (p_I b) (p_I f) = some r ∧ (r = true ↔ (b ≠ 6 ∧ 0 ≤ T (a + f) l 6 ∧ T (a + f) l 6 = T a l b)) := by
  unfold f_Table_isFillerBest
  have e1 := (hv (a + f) l 6 ha hl (by omega)).2
  have e2 := (hv a l b (by omega) hl hb).2
  rw [p_addN, show (6 : Int32) = p_I ((6 : Nat) : Int) by decide, t_val N hv hS ha hl (by omega)]
  simp only [Option.bind]
  by_cases c : b = 6
  · rw [if_pos (by rw [c])]
    exact ⟨false, rfl, by constructor
                          · intro q; cases q
                          · intro q; exact absurd c q.1⟩
  · rw [if_neg (by rw [p_Ieq] <;> omega)]
    by_cases cz : T (a + f) l 6 = -1
    · rw [if_pos (by rw [lg_cmp_eq, p_Jm1, cz])]
      exact ⟨false, rfl, by constructor
                            · intro q; cases q
                            · intro q; omega⟩
    · rw [if_neg (by rw [lg_cmp_eq, p_Jm1, p_Jeq] <;> omega), t_val N hv hS (by omega) hl hb]
      simp only []
      by_cases ce : T (a + f) l 6 = T a l b
      · rw [if_pos (by rw [lg_cmp_eq, ce])]
        exact ⟨true, rfl, fun _ => ⟨c, by omega, ce⟩, fun _ => rfl⟩
      · rw [if_neg (by rw [lg_cmp_eq, p_Jeq] <;> omega)]
        exact ⟨false, rfl, by constructor
                              · intro q; cases q
                              · intro q; exact absurd q.2.2 ce⟩
section
variable (N : Nat) (S : Nat) (vms vn : Int32) (v_iwid v_ibar : Nat → Int32) (v_inea : Nat → Int64) (v_tval : Nat → Int64) (v_tfit : Nat → Int32) (pco ptc pis : Int32) (pww pwc bw bc : Int64) (va vb : Int32)
theorem t_keep_cut (x1 x2 : Int32) (q : Nat → Bool) (cnt : Nat) (hcnt : cnt ≤ 64) :
    ∀ (R : List Nat) (m e : Nat) (K : List Nat) (v : Nat → Int32), (∀ F, F ∈ R → (x1 = -1 → f_Table_isFillerBest N ((S + 1) * 512) v_tval va (p_I F &&& (pis ^^^ (-1))) vb x2 = some (q F)) ∧ (x1 ≠ -1 → f_Table_isItemBest N 6 8 64 ((S + 1) * 512) S vms vn v_iwid v_ibar v_inea v_tval v_tfit va (p_I F &&& (pis ^^^ (-1))) vb x1 = some (q F))) → R.length < m → K.length ≤ e → e + R.length = cnt → ww_en K v 0 → ww_en R v e →
    ∃ v', f_Planner_keepSets_cut N 6 8 64 ((S + 1) * 512) S 64 vms vn v_iwid v_ibar v_inea v_tval v_tfit pco ptc pis pww pwc bw bc va vb m 0 x1 x2 (p_I K.length) (p_I e) (p_I cnt) v = some (if (K ++ R.filter q).length = 0 then (false, p_I cnt, v') else (true, p_I (K ++ R.filter q).length, v')) ∧ ww_en (K ++ R.filter q) v' 0 ∧ ((K ++ R.filter q).length = 0 → v' = v)
  | [], m + 1, e, K, v, _, _, hk, he, h1, h2 => by
    refine ⟨v, ?_, by simpa using h1, fun _ => rfl⟩
    have : cnt = e := by simpa using he.symm
    subst this
    rw [f_Planner_keepSets_cut_0, if_pos (by rw [p_Ile] <;> omega)]
    simp only [List.filter_nil, List.append_nil]
    by_cases c : K.length = 0
    · rw [if_pos (by rw [c]; rfl), if_pos c]
    · rw [if_neg (by rw [p_0, p_Ieq] <;> omega), if_neg c]
  | F :: R, m + 1, e, K, v, hq, hm, hk, he, h1, h2 => by
    have hlen : (F :: R).length = R.length + 1 := rfl
    rw [hlen] at hm he
    have hF : v e = p_I F := h2 0 F rfl
    have h2' : ∀ v', (∀ j, e < j → v' j = v j) → ww_en R v' (e + 1) := by
      intro v' hv' j x hj
      rw [hv' (e + 1 + j) (by omega), show e + 1 + j = e + (j + 1) by omega]
      exact h2 (j + 1) x (by simpa using hj)
    rw [f_Planner_keepSets_cut_0, if_neg (by rw [p_Ile] <;> omega), if_neg (p_in (by omega) (by omega)), p_ix e (by omega), hF]
    have hq1 := hq F (List.mem_cons_self)
    have hq2 : ∀ F', F' ∈ R → _ := fun F' h => hq F' (List.mem_cons_of_mem _ h)
    have stay : q F = false → ∃ v', f_Planner_keepSets_cut N 6 8 64 ((S + 1) * 512) S 64 vms vn v_iwid v_ibar v_inea v_tval v_tfit pco ptc pis pww pwc bw bc va vb m 0 x1 x2 (p_I K.length) (p_I e + 1) (p_I cnt) v = some (if (K ++ (F :: R).filter q).length = 0 then (false, p_I cnt, v') else (true, p_I (K ++ (F :: R).filter q).length, v')) ∧ ww_en (K ++ (F :: R).filter q) v' 0 ∧ ((K ++ (F :: R).filter q).length = 0 → v' = v) := by
      intro c
      rw [p_up, List.filter_cons_of_neg (by rw [c]; decide)]
      exact t_keep_cut x1 x2 q cnt hcnt R m (e + 1) K v hq2 (by omega) (by omega) (by omega) h1 (h2' v (fun _ _ => rfl))
    have take : q F = true → ∃ v', f_Planner_keepSets_cut N 6 8 64 ((S + 1) * 512) S 64 vms vn v_iwid v_ibar v_inea v_tval v_tfit pco ptc pis pww pwc bw bc va vb m 0 x1 x2 (p_I K.length + 1) (p_I e + 1) (p_I cnt) (upd v (Int32.toNatClampNeg (p_I K.length)) (p_I F)) = some (if (K ++ (F :: R).filter q).length = 0 then (false, p_I cnt, v') else (true, p_I (K ++ (F :: R).filter q).length, v')) ∧ ww_en (K ++ (F :: R).filter q) v' 0 ∧ ((K ++ (F :: R).filter q).length = 0 → v' = v) := by
      intro c
      rw [p_up, p_up, p_ix K.length (by omega), List.filter_cons_of_pos (by rw [c])]
      have hl : (K ++ [F]).length = K.length + 1 := by simp
      have e1 : K ++ F :: R.filter q = (K ++ [F]) ++ R.filter q := by simp
      rw [e1, ← hl]
      obtain ⟨v', k1, k2, k3⟩ := t_keep_cut x1 x2 q cnt hcnt R m (e + 1) (K ++ [F]) (upd v K.length (p_I F)) hq2 (by omega) (by omega) (by omega) (by
        intro j x hj
        rw [p_u]
        by_cases cj : j < K.length
        · rw [List.getElem?_append_left cj] at hj
          rw [if_neg (by omega)]
          exact h1 j x hj
        · rw [List.getElem?_append_right (by omega)] at hj
          by_cases ce : j = K.length
          · rw [ce, Nat.sub_self] at hj
            simp at hj
            rw [if_pos (by omega), hj]
          · rw [List.getElem?_eq_none (by simp; omega)] at hj
            cases hj) (h2' _ (fun j hj => by rw [p_u, if_neg (by omega)]))
      refine ⟨v', k1, k2, fun h0 => ?_⟩
      rw [List.length_append, hl] at h0
      omega
    by_cases cx : x1 = -1
    · rw [if_pos cx, hq1.1 cx]
      simp only [Option.bind]
      cases c : q F with
      | false => rw [if_neg (by decide)]; exact stay c
      | true =>
        rw [if_pos rfl, if_neg (p_inx (by omega) (by omega)), if_neg (p_in (by omega) (by omega))]
        exact take c
    · rw [if_neg cx, hq1.2 cx]
      simp only [Option.bind]
      cases c : q F with
      | false => rw [if_neg (by decide)]; exact stay c
      | true =>
        rw [if_pos rfl, if_neg (p_inx (by omega) (by omega)), if_neg (p_in (by omega) (by omega))]
        exact take c
end
