theorem r_bt (N : Nat) (c1 vst vpi vit vle vmo c2 c3 : Int32) (c4 c5 : Int64) (hp : Bool) {va vs : Nat → Int32} (vi : Nat → Int32) {K : List (Int × Nat × Nat)} {p : Int × Nat × Nat} {R : List (Int × Nat × Nat)} (hpl : ww_pl (K ++ p :: R) vi va vs) (hK : K.length ≤ 39) (hb : ∀ q, q ∈ K ++ p :: R → q.2.1 ≤ 40 ∧ q.2.2 ≤ 40) :
    f_Model_beginsTop N 41 41 c1 vst vpi vit vle vmo hp c2 c3 c4 c5 va vs (p_I K.length) = some (decide (ww_addT (ww_tops K) p = ww_tops K ++ [(p.2.1, p.2.2)])) ∧ (ww_addT (ww_tops K) p ≠ ww_tops K ++ [(p.2.1, p.2.2)] → ∃ q, (ww_tops K)[(ww_tops K).length - 1]? = some q ∧ ww_addT (ww_tops K) p = (ww_tops K).set ((ww_tops K).length - 1) (q.1, q.2 + p.2.2)) := by
  unfold f_Model_beginsTop
  rcases List.eq_nil_or_concat K with e | ⟨K', p', e⟩
  · subst e
    have e1 : ww_addT (ww_tops []) p = ww_tops [] ++ [(p.2.1, p.2.2)] := rfl
    rw [if_pos (by decide), decide_eq_true e1]
    exact ⟨rfl, fun h => absurd e1 h⟩
  · rw [List.concat_eq_append] at e
    obtain ⟨q, hq, he⟩ := ww_end K' p'
    rw [← e] at hq
    have hl : K.length = K'.length + 1 := by rw [e]; simp
    obtain ⟨-, a1, a2⟩ := hpl K'.length p' (by rw [e]; simp)
    obtain ⟨-, b1, b2⟩ := hpl K.length p (by simp)
    have c1' := hb p' (by rw [e]; simp)
    have c2' := hb p (by simp)
    have e1 : ((K.length : Nat) : Int) - 1 = ((K'.length : Nat) : Int) := by omega
    rw [if_neg (by rw [p_0, p_Ieq] <;> omega), p_1, p_Isub, e1, if_neg (p_in (by omega) (by omega)), if_neg (p_in (by omega) (by omega)), if_neg (p_in (by omega) (by omega)), p_ix _ (by omega), p_ix _ (by omega), a1, a2, b1, p_addN]
    by_cases c : p'.2.1 + p'.2.2 = p.2.1
    · have hs := ww_addT_set (p := p) hq (by omega)
      have hne : ww_addT (ww_tops K) p ≠ ww_tops K ++ [(p.2.1, p.2.2)] := by
        rw [hs]
        intro h
        have := congrArg List.length h
        simp at this
      rw [if_pos (by rw [c]), decide_eq_false hne]
      exact ⟨rfl, fun _ => ⟨q, hq, hs⟩⟩
    · have ha : ww_addT (ww_tops K) p = ww_tops K ++ [(p.2.1, p.2.2)] := by
        refine ww_addT_app (fun r hr => ?_)
        rw [hq] at hr
        cases hr
        omega
      rw [if_neg (by rw [p_Ieq] <;> omega), decide_eq_true ha]
      exact ⟨rfl, fun h => absurd ha h⟩
def ww_topR (ts : List (Nat × Nat)) (x y : Int) : Int32 × Int32 := if x < -1 ∨ (ts.length : Int) ≤ x then (0, 2) else if y < 0 ∨ 1 < y then (0, 3) else if x = -1 then (p_I ts.length, 0) else if y = 0 then (p_I ((ww_g ts x).1 : Nat), 0) else (p_I ((ww_g ts x).2 : Nat), 0)
theorem r_top_cut (N : Nat) (c1 vst vpi vit vle vmo c2 : Int32) (c4 c5 : Int64) (hp : Bool) {vi va vs : Nat → Int32} {L : List (Int × Nat × Nat)} (hpl : ww_pl L vi va vs) (hL : L.length ≤ 40) (hb : ∀ q, q ∈ L → q.2.1 ≤ 40 ∧ q.2.2 ≤ 40) (hli : ∀ K : List (Int × Nat × Nat), (ww_tops K).length ≤ K.length) {x y : Int} (x1 : -2147483648 ≤ x) (x2 : x < 2147483648) (y1 : -2147483648 ≤ y) (y2 : y < 2147483648) :
    ∀ (R K : List (Int × Nat × Nat)) (m : Nat), L = K ++ R → R.length < m → f_Model_top_cut N 41 41 vst vpi vit vle vmo hp c2 (p_I L.length) c4 c5 va vs m 0 (p_I x) (p_I y) (p_I (ww_tops K).length) (p_I ((ww_g (ww_tops K) x).1 : Nat)) (p_I ((ww_g (ww_tops K) x).2 : Nat)) (p_I K.length) c1 = some (ww_topR (ww_tops L) x y)
  | [], K, m + 1, h, _ => by
    rw [List.append_nil] at h
    subst h
    have l1 := hli L
    have t1 : p_I x < (-1 : Int32) ↔ x < -1 := by rw [p_m1, p_Ilt] <;> omega
    have t2 : p_I x < p_I (ww_tops L).length ↔ ¬ (((ww_tops L).length : Int) ≤ x) := by rw [p_Ilt] <;> omega
    have t3 : p_I x = (-1 : Int32) ↔ x = -1 := by rw [p_m1, p_Ieq] <;> omega
    have t4 : p_I y = 0 ↔ y = 0 := by rw [p_0, p_Ieq] <;> omega
    have i1 : f_Model_isIn N (p_I y).toInt64 0 1 = some (decide (0 ≤ y) && decide (y ≤ 1)) := by
      rw [p_tol y1 y2, show (0 : Int64) = p_J 0 by decide, show (1 : Int64) = p_J 1 by decide]
      exact r_isIn N (by omega) (by omega) (b := 0) (by omega) (by omega) (c := 1) (by omega) (by omega)
    have d2 : ¬ ((2 : Int32) ≤ 0) := by decide
    have d3 : ¬ ((3 : Int32) ≤ 0) := by decide
    have d0 : (0 : Int32) ≤ 0 := by decide
    rw [f_Model_top_cut_0, if_pos (by rw [p_Ile] <;> omega), i1]
    unfold ww_topR
    by_cases e1 : x < -1
    · rw [if_pos (Or.inl e1)]
      simp only [t1, e1, if_true, d2, if_false]
    by_cases e2 : ((ww_tops L).length : Int) ≤ x
    · rw [if_pos (Or.inr e2)]
      simp only [t1, t2, e1, e2, d2, if_false, not_true_eq_false]
    rw [if_neg (show ¬ (x < -1 ∨ ((ww_tops L).length : Int) ≤ x) by omega)]
    by_cases e3 : y < 0 ∨ 1 < y
    · have e4 : (decide (0 ≤ y) && decide (y ≤ 1)) = false := by
        by_cases q : 0 ≤ y
        · rw [decide_eq_false (p := y ≤ 1) (by omega), Bool.and_false]
        · rw [decide_eq_false q, Bool.false_and]
      rw [if_pos e3, e4]
      simp only [t1, t2, e1, e2, d3, if_false, if_true, not_false_eq_true, Option.bind, Bool.false_eq_true]
    · rw [if_neg e3, decide_eq_true (p := 0 ≤ y) (by omega), decide_eq_true (p := y ≤ 1) (by omega)]
      simp only [t1, t2, t3, t4, e1, e2, d0, if_false, if_true, not_false_eq_true, Option.bind, Bool.and_self]
      by_cases e5 : x = -1
      · rw [if_pos e5, if_pos e5]
      · rw [if_neg e5, if_neg e5]
        by_cases e6 : y = 0
        · rw [if_pos e6, if_pos e6]
        · rw [if_neg e6, if_neg e6]
  | p :: R, K, m + 1, h, hm => by
    have hlen : (p :: R).length = R.length + 1 := rfl
    rw [hlen] at hm
    have hLl : L.length = K.length + (R.length + 1) := by rw [h]; simp
    have l1 := hli K
    obtain ⟨b1, b2⟩ := r_bt N c1 vst vpi vit vle vmo c2 (p_I L.length) c4 c5 hp vi (by rw [← h]; exact hpl) (by omega) (by rw [← h]; exact hb)
    obtain ⟨-, v1, v2⟩ := hpl K.length p (by rw [h]; simp)
    have hadd := ww_tops_add K p
    have ih := r_top_cut N c1 vst vpi vit vle vmo c2 c4 c5 hp hpl hL hb hli x1 x2 y1 y2 R (K ++ [p]) m (by rw [h]; simp) (by omega)
    have hKl : (K ++ [p]).length = K.length + 1 := by simp
    rw [hKl, hadd] at ih
    have i1 := p_inx (k := K.length) (n := 41) (by omega) (by omega)
    rw [f_Model_top_cut_0, if_neg (by rw [p_Ile] <;> omega), b1]
    simp only [Option.bind, p_ix K.length (show K.length < 2147483648 by omega), i1, if_false, v1, v2, p_up, p_addN]
    by_cases ca : ww_addT (ww_tops K) p = ww_tops K ++ [(p.2.1, p.2.2)]
    · rw [decide_eq_true ca, if_pos rfl]
      rw [ca, ww_g_app] at ih
      have hl2 : (ww_tops K ++ [(p.2.1, p.2.2)]).length = (ww_tops K).length + 1 := by simp
      rw [hl2] at ih
      have e9 : p_I (((ww_tops K).length + 1 : Nat) : Int) - 1 = p_I (ww_tops K).length := by
        rw [p_1, p_Isub]; congr 1; omega
      rw [e9]
      by_cases ce : x = ((ww_tops K).length : Int)
      · rw [if_pos (by rw [ce]), if_pos (by rw [ce])]
        rw [if_pos ce] at ih
        have hz : ww_g (ww_tops K) x = (0, 0) := by rw [ce]; exact ww_g_out
        rw [hz]
        simp only [Nat.zero_add]
        exact ih
      · have hne : ¬ (p_I (ww_tops K).length = p_I x) := by rw [p_Ieq] <;> omega
        rw [if_neg hne, if_neg hne]
        rw [if_neg ce] at ih
        exact ih
    · rw [decide_eq_false ca, if_neg (by decide)]
      obtain ⟨q, q1, q2⟩ := b2 ca
      rw [q2, List.length_set, ww_g_set q1] at ih
      have hlt : (ww_tops K).length - 1 < (ww_tops K).length := by
        by_cases cl : (ww_tops K).length - 1 < (ww_tops K).length
        · exact cl
        · rw [List.getElem?_eq_none (by omega)] at q1; cases q1
      have e9 : p_I ((ww_tops K).length : Int) - 1 = p_I (((ww_tops K).length - 1 : Nat) : Int) := by
        rw [p_1, p_Isub]; congr 1; omega
      rw [e9]
      by_cases ce : x = (((ww_tops K).length - 1 : Nat) : Int)
      · rw [if_pos (by rw [ce])]
        rw [if_pos ce] at ih
        have hz : ww_g (ww_tops K) x = q := by rw [ce]; exact ww_g_in q1
        rw [hz]
        exact ih
      · rw [if_neg (by rw [p_Ieq] <;> omega)]
        rw [if_neg ce] at ih
        exact ih
