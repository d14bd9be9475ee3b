def ww_addT (ts : List (Nat × Nat)) (p : Int × Nat × Nat) : List (Nat × Nat) :=
  match ts[ts.length - 1]? with
  | some q => if q.1 + q.2 = p.2.1 then ts.set (ts.length - 1) (q.1, q.2 + p.2.2) else ts ++ [(p.2.1, p.2.2)]
  | none => ts ++ [(p.2.1, p.2.2)]
def ww_tops (L : List (Int × Nat × Nat)) : List (Nat × Nat) := L.foldl ww_addT []
def ww_bo (L : List (Int × Nat × Nat)) (k : Nat) : Int := L.foldl (fun acc p => if p.1 = (k : Int) then (p.2.1 : Int) else acc) (-1)
theorem ww_tops_add (L : List (Int × Nat × Nat)) (p : Int × Nat × Nat) : ww_tops (L ++ [p]) = ww_addT (ww_tops L) p := by
  unfold ww_tops
  rw [List.foldl_append]
  rfl
theorem ww_bo_add (L : List (Int × Nat × Nat)) (p : Int × Nat × Nat) (k : Nat) : ww_bo (L ++ [p]) k = if p.1 = (k : Int) then (p.2.1 : Int) else ww_bo L k := by
  unfold ww_bo
  rw [List.foldl_append]
  rfl
def ww_tl (ts : List (Nat × Nat)) (vb vs : Nat → Int32) : Prop := ∀ (j : Nat) (q : Nat × Nat), ts[j]? = some q → vb j = p_I (q.1 : Nat) ∧ vs j = p_I (q.2 : Nat)
def ww_li (L : List (Int × Nat × Nat)) (a : Nat) : Prop := L.length ≤ a ∧ (ww_tops L).length ≤ L.length ∧ ∀ (j : Nat) (q : Nat × Nat), (ww_tops L)[j]? = some q → q.1 + q.2 ≤ a
def ww_ps (L : List (Int × Nat × Nat)) (U : Nat) (cnt tc is : Int32) (ppi ppb pps ptb pts pbo : Nat → Int32) : Prop := cnt = p_I L.length ∧ tc = p_I (ww_tops L).length ∧ is = p_I U ∧ ww_pl L ppi ppb pps ∧ ww_tl (ww_tops L) ptb pts ∧ ∀ k, k < 6 → pbo k = p_I (ww_bo L k)
theorem ww_addT_app {ts : List (Nat × Nat)} {p : Int × Nat × Nat} (h : ∀ q, ts[ts.length - 1]? = some q → q.1 + q.2 ≠ p.2.1) : ww_addT ts p = ts ++ [(p.2.1, p.2.2)] := by
  unfold ww_addT
  split
  · rename_i q hq
    rw [if_neg (h q hq)]
  · rfl
theorem ww_addT_set {ts : List (Nat × Nat)} {p : Int × Nat × Nat} {q : Nat × Nat} (hq : ts[ts.length - 1]? = some q) (h : q.1 + q.2 = p.2.1) : ww_addT ts p = ts.set (ts.length - 1) (q.1, q.2 + p.2.2) := by
  unfold ww_addT
  rw [hq]
  exact if_pos h
theorem ww_tl_app {ts : List (Nat × Nat)} {vb vs : Nat → Int32} (h : ww_tl ts vb vs) (x y : Nat) : ww_tl (ts ++ [(x, y)]) (upd vb ts.length (p_I x)) (upd vs ts.length (p_I y)) := by
  intro j q hq
  rw [p_u, p_u]
  by_cases c : j < ts.length
  · rw [List.getElem?_append_left c] at hq
    rw [if_neg (by omega), if_neg (by omega)]
    exact h j q hq
  · rw [List.getElem?_append_right (by omega)] at hq
    by_cases e : j = ts.length
    · rw [e, Nat.sub_self] at hq
      simp at hq
      rw [if_pos e, if_pos e, ← hq]
      exact ⟨rfl, rfl⟩
    · rw [List.getElem?_eq_none (by simp; omega)] at hq
      cases hq
theorem ww_tl_set {ts : List (Nat × Nat)} {vb vs : Nat → Int32} (h : ww_tl ts vb vs) {i : Nat} {q : Nat × Nat} (hq : ts[i]? = some q) (y : Nat) : ww_tl (ts.set i (q.1, y)) vb (upd vs i (p_I y)) := by
  intro j r hr
  rw [p_u]
  rw [List.getElem?_set] at hr
  by_cases c : i = j
  · rw [if_pos c] at hr
    subst c
    rw [if_pos rfl]
    have hlt : i < ts.length := by
      by_cases cl : i < ts.length
      · exact cl
      · rw [List.getElem?_eq_none (by omega)] at hq; cases hq
    rw [if_pos hlt] at hr
    cases hr
    exact ⟨(h i q hq).1, rfl⟩
  · rw [if_neg c] at hr
    rw [if_neg (fun q => c q.symm)]
    exact h j r hr
theorem t_tops (N : Nat) (c1 c2 : Int32) (c3 c4 : Int64) {L : List (Int × Nat × Nat)} {a sz : Nat} (ha : a < 40) (hsz : 1 ≤ sz ∧ sz ≤ 40) (hli : ww_li L a) {vb vs : Nat → Int32} (h : ww_tl (ww_tops L) vb vs) (it : Int) :
    ∃ vb' vs', f_Plan_addToTops N 40 40 c1 (p_I (ww_tops L).length) c2 c3 c4 vb vs (p_I a) (p_I sz) = some (p_I (ww_tops (L ++ [(it, a, sz)])).length, vb', vs') ∧ ww_tl (ww_tops (L ++ [(it, a, sz)])) vb' vs' := by
  obtain ⟨l1, l2, l3⟩ := hli
  rw [ww_tops_add]
  generalize ww_tops L = ts at h l2 l3 ⊢
  have lt : ts.length < 40 := by omega
  unfold f_Plan_addToTops
  rw [p_1, p_Isub]
  have app : ww_addT ts (it, a, sz) = ts ++ [(a, sz)] → ∃ vb' vs', some (p_I ts.length + p_I 1, upd vb (Int32.toNatClampNeg (p_I ts.length)) (p_I a), upd vs (Int32.toNatClampNeg (p_I ts.length)) (p_I sz)) = some (p_I (ww_addT ts (it, a, sz)).length, vb', vs') ∧ ww_tl (ww_addT ts (it, a, sz)) vb' vs' := by
    intro e
    rw [e, p_ix _ (by omega)]
    refine ⟨_, _, ?_, ww_tl_app h a sz⟩
    rw [List.length_append, p_Iadd]
    rfl
  by_cases c : ts.length = 0
  · rw [if_pos (by rw [c]; decide), if_neg (p_in (by omega) (by omega)), if_neg (p_in (by omega) (by omega))]
    refine app (ww_addT_app ?_)
    intro q hq
    rw [List.getElem?_eq_none (by omega)] at hq
    cases hq
  · obtain ⟨q, hq⟩ : ∃ q, ts[ts.length - 1]? = some q := ⟨ts[ts.length - 1]'(by omega), List.getElem?_eq_getElem (by omega)⟩
    obtain ⟨q1, q2⟩ := h _ q hq
    have q3 := l3 _ q hq
    have e1 : ((ts.length : Nat) : Int) - 1 = ((ts.length - 1 : Nat) : Int) := by omega
    rw [e1, if_neg (by rw [p_0, p_Ilt] <;> omega)]
    have i1 := p_inx (k := ts.length - 1) (n := 40) (by omega) (by omega)
    have i2 := p_in (k := ts.length) (n := 40) (by omega) (by omega)
    simp only [p_ix (ts.length - 1) (show ts.length - 1 < 2147483648 by omega), i1, if_false, q1, q2, p_addN]
    by_cases ce : q.1 + q.2 = a
    · rw [if_pos (by rw [ce]), ww_addT_set hq ce]
      refine ⟨_, _, ?_, ww_tl_set h hq _⟩
      rw [List.length_set]
    · rw [if_neg (by rw [p_Ieq] <;> omega), if_neg i2, if_neg i2]
      refine app (ww_addT_app ?_)
      intro r hr
      rw [hq] at hr
      cases hr
      exact ce
theorem ww_li_add {L : List (Int × Nat × Nat)} {a sz : Nat} (hsz : 1 ≤ sz) (hli : ww_li L a) (it : Int) : ww_li (L ++ [(it, a, sz)]) (a + sz) := by
  obtain ⟨l1, l2, l3⟩ := hli
  unfold ww_li
  rw [ww_tops_add]
  generalize ww_tops L = ts at l2 l3 ⊢
  rw [List.length_append]
  refine ⟨by simp; omega, ?_, ?_⟩
  · unfold ww_addT
    split
    · split
      · rw [List.length_set]; simp; omega
      · simp; omega
    · simp; omega
  · have app : ∀ (j : Nat) (q : Nat × Nat), (ts ++ [(a, sz)])[j]? = some q → q.1 + q.2 ≤ a + sz := by
      intro j q hq
      by_cases c : j < ts.length
      · rw [List.getElem?_append_left c] at hq
        have := l3 j q hq
        omega
      · rw [List.getElem?_append_right (by omega)] at hq
        by_cases e : j = ts.length
        · rw [e, Nat.sub_self] at hq
          simp at hq
          rw [← hq]
          exact Nat.le_refl _
        · rw [List.getElem?_eq_none (by simp; omega)] at hq
          cases hq
    intro j q hq
    unfold ww_addT at hq
    split at hq
    · rename_i r hr
      split at hq
      · rename_i e
        rw [List.getElem?_set] at hq
        split at hq
        · split at hq
          · cases hq
            have := l3 _ r hr
            simp at e ⊢
            omega
          · cases hq
        · have := l3 j q hq
          omega
      · exact app j q hq
    · exact app j q hq
theorem t_add (N : Nat) (pww pwc : Int64) {L : List (Int × Nat × Nat)} {a sz U : Nat} (ha : a < 40) (hsz : 1 ≤ sz ∧ sz ≤ 40) (hli : ww_li L a) (hU : U < 64) {cnt tc is : Int32} {ppi ppb pps ptb pts pbo : Nat → Int32} (h : ww_ps L U cnt tc is ppi ppb pps ptb pts pbo) (it : Int) (U' : Nat) (hit : (it = -1 ∧ U' = U) ∨ (∃ k : Nat, k < 6 ∧ it = (k : Int) ∧ U' = (U ||| 2 ^ k))) :
    ∃ cnt' tc' is' ppi' ppb' pps' ptb' pts' pbo', f_Plan_add N 40 40 40 40 40 6 cnt tc is pww pwc ppi ppb pps ptb pts pbo (p_I it) (p_I a) (p_I sz) = some (cnt', tc', is', ppi', ppb', pps', ptb', pts', pbo') ∧ ww_ps (L ++ [(it, a, sz)]) U' cnt' tc' is' ppi' ppb' pps' ptb' pts' pbo' := by
  obtain ⟨rfl, rfl, rfl, h4, h5, h6⟩ := h
  have l1 := hli.1
  unfold f_Plan_add
  rw [if_pos (by rw [show (40 : Int32) = p_I 40 by decide, p_Ilt] <;> omega), if_neg (p_in (by omega) (by omega)), if_neg (p_in (by omega) (by omega)), if_neg (p_in (by omega) (by omega)), p_ix _ (by omega), p_up]
  have hpl := ww_pl_add h4 (it, a, sz)
  have hl : (L ++ [(it, a, sz)]).length = L.length + 1 := by simp
  rcases hit with ⟨e1, e2⟩ | ⟨k, k1, k2, k3⟩
  · obtain ⟨vb', vs', t1, t2⟩ := t_tops N (p_I ((L.length + 1 : Nat) : Int)) (p_I U) pww pwc ha hsz hli h5 it
    rw [if_pos (by rw [e1]; decide), t1]
    refine ⟨_, _, _, _, _, _, _, _, _, rfl, by rw [hl], rfl, by rw [e2], hpl, t2, ?_⟩
    intro k hk
    rw [ww_bo_add, if_neg (by simp; omega)]
    exact h6 k hk
  · subst k2
    rw [if_neg (by rw [p_m1, p_Ieq] <;> omega), if_neg (p_in (by omega) (by omega)), p_ix k (by omega), p_bit k (by omega), p_or U hU k k1]
    obtain ⟨vb', vs', t1, t2⟩ := t_tops N (p_I ((L.length + 1 : Nat) : Int)) (p_I ((U ||| 2 ^ k : Nat) : Int)) pww pwc ha hsz hli h5 (k : Int)
    rw [t1]
    refine ⟨_, _, _, _, _, _, _, _, _, rfl, by rw [hl], rfl, by rw [k3], hpl, t2, ?_⟩
    intro j hj
    rw [ww_bo_add, p_u]
    by_cases c : j = k
    · rw [if_pos c, if_pos (by simp; omega)]
    · rw [if_neg c, if_neg (by simp; omega)]
      exact h6 j hj
theorem t_piece (N : Nat) (pww pwc bw bc : Int64) (tc0 vb0 : Int32) {L : List (Int × Nat × Nat)} {a sz U : Nat} (ha : a < 40) (hsz : 1 ≤ sz ∧ sz ≤ 40) (hli : ww_li L a) (hU : U < 64) {cnt tc is : Int32} {ppi ppb pps ptb pts pbo : Nat → Int32} (h : ww_ps L U cnt tc is ppi ppb pps ptb pts pbo) (it : Int) (U' b' : Nat) (hit : (it = -1 ∧ U' = U ∧ b' = 6) ∨ (∃ k : Nat, k < 6 ∧ it = (k : Int) ∧ U' = (U ||| 2 ^ k) ∧ b' = k)) :
    ∃ cnt' tc' is' ppi' ppb' pps' ptb' pts' pbo', f_Planner_takePiece N 40 40 40 40 40 6 cnt tc is pww pwc ppi ppb pps ptb pts pbo tc0 bw bc (p_I a) vb0 (p_I it) (p_I sz) = some (cnt', tc', is', ppi', ppb', pps', ptb', pts', pbo', p_I ((a + sz : Nat) : Int), p_I b') ∧ ww_ps (L ++ [(it, a, sz)]) U' cnt' tc' is' ppi' ppb' pps' ptb' pts' pbo' := by
  obtain ⟨cnt', tc', is', ppi', ppb', pps', ptb', pts', pbo', h1, h2⟩ := t_add N pww pwc ha hsz hli hU h it U' (by
    rcases hit with ⟨e1, e2, e3⟩ | ⟨k, k1, k2, k3, k4⟩
    · exact Or.inl ⟨e1, e2⟩
    · exact Or.inr ⟨k, k1, k2, k3⟩)
  refine ⟨cnt', tc', is', ppi', ppb', pps', ptb', pts', pbo', ?_, h2⟩
  unfold f_Planner_takePiece
  rw [h1]
  simp only [Option.bind]
  rw [p_addN]
  rcases hit with ⟨e1, e2, e3⟩ | ⟨k, k1, k2, k3, k4⟩
  · rw [if_pos (by rw [e1]; decide), e3]; rfl
  · rw [if_neg (by rw [k2, p_m1, p_Ieq] <;> omega), k2, k4]
