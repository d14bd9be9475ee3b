def ww_uq : Nat → List (Int × Nat × Nat) → Prop
  | _, [] => True
  | U, p :: L => (p.1 = -1 ∧ ww_uq U L) ∨ (∃ k : Nat, k < 6 ∧ p.1 = (k : Int) ∧ Nat.testBit U k = false ∧ ww_uq (U ||| 2 ^ k) L)
theorem ww_path_uq {S n : Nat} (hn : n ≤ 6) {free : Nat → Bool} {w : Nat → Nat} {met : Nat → Nat → Bool} {nw : Nat → Nat → Int} {bar : Nat → Nat → Bool} {least most : Nat} {wo co : Nat → Int} {Bw Bc : Nat → Nat → Nat → Int} : ∀ m a b U L U', ww_path S n free w met nw bar least most wo co Bw Bc m a b U L U' → ww_uq U L
  | 0, a, b, U, L, U', h => by
    obtain ⟨-, rfl, -⟩ := h
    exact trivial
  | m + 1, a, b, U, L, U', h => by
    obtain ⟨ha, h⟩ := h
    rcases h with ⟨_, h⟩ | ⟨_, p, a1, b1, U1, L1, hs, rfl, h⟩
    · exact ww_path_uq hn m _ _ _ _ _ h
    · have ih := ww_path_uq hn m _ _ _ _ _ h
      rcases hs with ⟨k, k1, k2, k3, k4, k5, k6, k7⟩ | ⟨hno, hb6, f, f1, f2, f3, f4, f5, f6, f7, f8⟩
      · subst k7; subst k4
        exact Or.inr ⟨k, by omega, rfl, k2.1, ih⟩
      · subst f8; subst f5
        exact Or.inl ⟨rfl, ih⟩
theorem ww_path_lt {S n : Nat} (hn : n ≤ 6) {free : Nat → Bool} {w : Nat → Nat} {met : Nat → Nat → Bool} {nw : Nat → Nat → Int} {bar : Nat → Nat → Bool} {least most : Nat} {wo co : Nat → Int} {Bw Bc : Nat → Nat → Nat → Int} (hw : ∀ k, k < n → 1 ≤ w k) (hle : 1 ≤ least) : ∀ m a b U L U', ww_path S n free w met nw bar least most wo co Bw Bc m a b U L U' → U < 2 ^ n → U' < 2 ^ n ∧ ∀ K, ww_li K a → ww_li (K ++ L) S
  | 0, a, b, U, L, U', h, hU => by
    obtain ⟨rfl, rfl, rfl⟩ := h
    exact ⟨hU, fun K hK => by rw [List.append_nil]; exact hK⟩
  | m + 1, a, b, U, L, U', h, hU => by
    have h64 := p_2n n (by omega)
    obtain ⟨ha, h⟩ := h
    rcases h with ⟨_, h⟩ | ⟨_, p, a1, b1, U1, L1, hs, rfl, h⟩
    · obtain ⟨g1, g2⟩ := ww_path_lt hn hw hle m _ _ _ _ _ h hU
      exact ⟨g1, fun K hK => g2 K ⟨by have := hK.1; omega, hK.2.1, fun j q hq => by have := hK.2.2 j q hq; omega⟩⟩
    · rcases hs with ⟨k, k1, k2, k3, k4, k5, k6, k7⟩ | ⟨hno, hb6, f, f1, f2, f3, f4, f5, f6, f7, f8⟩
      · subst k7; subst k4; subst k5
        obtain ⟨g1, g2⟩ := ww_path_lt hn hw hle m _ _ _ _ _ h (p_b7 U (by omega) n (by omega) hU k k1)
        refine ⟨g1, fun K hK => ?_⟩
        have := g2 (K ++ [((k : Int), a, w k)]) (ww_li_add (hw k k1) hK _)
        simpa using this
      · subst f8; subst f5; subst f6
        obtain ⟨g1, g2⟩ := ww_path_lt hn hw hle m _ _ _ _ _ h hU
        refine ⟨g1, fun K hK => ?_⟩
        have := g2 (K ++ [(-1, a, f)]) (ww_li_add (by omega) hK _)
        simpa using this
def ww_fm : List (Int × Nat × Nat) → Nat → Int
  | [], _ => -1
  | p :: L, k => if p.1 = (k : Int) then (p.2.1 : Int) else ww_fm L k
theorem ww_uq_no : ∀ (L : List (Int × Nat × Nat)) (U : Nat), U < 64 → ww_uq U L → ∀ k, k < 6 → Nat.testBit U k = true → ∀ acc : Int, L.foldl (fun acc p => if p.1 = (k : Int) then (p.2.1 : Int) else acc) acc = acc
  | [], _, _, _, _, _, _, _ => rfl
  | p :: L, U, hU, h, k, hk, hb, acc => by
    rw [List.foldl_cons]
    rcases h with ⟨h1, h2⟩ | ⟨j, h1, h2, h3, h4⟩
    · rw [if_neg (by omega)]
      exact ww_uq_no L U hU h2 k hk hb acc
    · have hne : j ≠ k := fun q => by rw [q, hb] at h3; cases h3
      rw [if_neg (by omega)]
      refine ww_uq_no L (U ||| 2 ^ j) (p_or64 hU h1) h4 k hk ?_ acc
      rw [p_b6 U hU j h1 k hk, hb]; rfl
theorem ww_bo_fm : ∀ (L : List (Int × Nat × Nat)) (U : Nat), U < 64 → ww_uq U L → ∀ k, k < 6 → ww_bo L k = ww_fm L k
  | [], _, _, _, _, _ => rfl
  | p :: L, U, hU, h, k, hk => by
    unfold ww_bo
    rw [List.foldl_cons]
    unfold ww_fm
    rcases h with ⟨h1, h2⟩ | ⟨j, h1, h2, h3, h4⟩
    · rw [if_neg (by omega), if_neg (by omega)]
      exact ww_bo_fm L U hU h2 k hk
    · by_cases c : j = k
      · subst c
        rw [if_pos h2, if_pos h2]
        refine ww_uq_no L (U ||| 2 ^ j) (p_or64 hU h1) h4 j hk ?_ _
        rw [p_b6 U hU j h1 j hk]; simp
      · rw [if_neg (by omega), if_neg (by omega)]
        exact ww_bo_fm L (U ||| 2 ^ j) (p_or64 hU h1) h4 k hk
theorem ww_uq_1 : ∀ (L : List (Int × Nat × Nat)) (U : Nat), ww_uq U L → ∀ p, p ∈ L → -1 ≤ p.1 ∧ p.1 ≤ 5
  | [], _, _, p, hp => by cases hp
  | q :: L, U, h, p, hp => by
    rcases h with ⟨h1, h2⟩ | ⟨j, h1, h2, h3, h4⟩
    · rcases List.mem_cons.1 hp with e | e
      · subst e; omega
      · exact ww_uq_1 L U h2 p e
    · rcases List.mem_cons.1 hp with e | e
      · subst e; omega
      · exact ww_uq_1 L _ h4 p e
theorem r_at_cut' (N : Nat) (vst vpi vit vle vmo c2 : Int32) (c4 c5 : Int64) (hp : Bool) {vi va : Nat → Int32} {k : Nat} (hk : k < 6) {n : Nat} (hn : n ≤ 40) :
    ∀ (R : List (Int × Nat × Nat)) (m e : Nat), (∀ p, p ∈ R → -1 ≤ p.1 ∧ p.1 ≤ 5) → (∀ j (p : Int × Nat × Nat), R[j]? = some p → vi (e + j) = p_I p.1 ∧ va (e + j) = p_I (p.2.1 : Nat)) → e + R.length = n → R.length < m → f_Model_at_cut N 41 41 vst vpi vit vle vmo hp c2 (p_I n) c4 c5 vi va m 0 (p_I k) (p_I e) 0 = some (p_I (ww_fm R k), 0)
  | [], m + 1, e, _, _, he, _ => by
    have : n = e := by simpa using he.symm
    rw [f_Model_at_cut_0, if_pos (by rw [p_Ile] <;> omega), if_pos (by decide)]
    rfl
  | p :: R, m + 1, e, hr, hv, he, hm => by
    have hlen : (p :: R).length = R.length + 1 := rfl
    rw [hlen] at he hm
    obtain ⟨v1, v2⟩ := hv 0 p rfl
    rw [Nat.add_zero] at v1 v2
    have hp1 := hr p (List.mem_cons_self)
    rw [f_Model_at_cut_0, if_neg (by rw [p_Ile] <;> omega), if_pos rfl, if_neg (p_in (by omega) (by omega)), p_ix e (by omega), v1]
    unfold ww_fm
    by_cases c : p.1 = (k : Int)
    · rw [if_pos (by rw [c]), if_neg (p_inx (by omega) (by omega)), v2, if_pos c]
    · rw [if_neg (by rw [p_Ieq] <;> omega), if_neg c, p_up]
      exact r_at_cut' N vst vpi vit vle vmo c2 c4 c5 hp hk hn R m (e + 1) (fun q hq => hr q (List.mem_cons_of_mem _ hq)) (fun j q hq => by rw [show e + 1 + j = e + (j + 1) by omega]; exact hv (j + 1) q (by simpa using hq)) (by omega) (by omega)
theorem r_at_bad (N : Nat) (hN : 30000 ≤ N) (vst vpi vit vle vmo c2 c3 : Int32) (c4 c5 : Int64) (hp : Bool) (vi va : Nat → Int32) (x1 : Int32) : f_Model_at_cut N 41 41 vst vpi vit vle vmo hp c2 c3 c4 c5 vi va N 0 x1 0 2 = some (0, 2) := by
  obtain ⟨m, hm⟩ : ∃ m, N = m + 1 := ⟨N - 1, by omega⟩
  have e : f_Model_at_cut N 41 41 vst vpi vit vle vmo hp c2 c3 c4 c5 vi va (m + 1) 0 x1 0 2 = some (0, 2) := by
    rw [f_Model_at_cut_0]
    split
    · rw [if_neg (by decide)]
    · rw [if_neg (by decide), if_neg (by decide)]
  rw [← hm] at e
  exact e
def ww_g (ts : List (Nat × Nat)) (x : Int) : Nat × Nat := if 0 ≤ x then (ts[x.toNat]?).getD (0, 0) else (0, 0)
theorem ww_g_app {ts : List (Nat × Nat)} (q : Nat × Nat) (x : Int) : ww_g (ts ++ [q]) x = if x = (ts.length : Int) then q else ww_g ts x := by
  unfold ww_g
  by_cases c : 0 ≤ x
  · rw [if_pos c, if_pos c]
    by_cases e : x = (ts.length : Int)
    · rw [if_pos e, e]
      simp
    · rw [if_neg e]
      by_cases l : x.toNat < ts.length
      · rw [List.getElem?_append_left l]
      · rw [List.getElem?_eq_none (by simp; omega), List.getElem?_eq_none (by omega)]
  · rw [if_neg c, if_neg c, if_neg (by omega)]
theorem ww_g_out {ts : List (Nat × Nat)} : ww_g ts (ts.length : Int) = (0, 0) := by
  unfold ww_g
  rw [if_pos (by omega), List.getElem?_eq_none (by omega)]
  rfl
theorem ww_g_set {ts : List (Nat × Nat)} {i : Nat} {q : Nat × Nat} (hq : ts[i]? = some q) (y : Nat) (x : Int) : ww_g (ts.set i (q.1, y)) x = if x = (i : Int) then (q.1, y) else ww_g ts x := by
  have hlt : i < ts.length := by
    by_cases cl : i < ts.length
    · exact cl
    · rw [List.getElem?_eq_none (by omega)] at hq; cases hq
  unfold ww_g
  by_cases c : 0 ≤ x
  · rw [if_pos c, if_pos c, List.getElem?_set]
    by_cases e : x = (i : Int)
    · rw [if_pos (by omega), if_pos hlt, if_pos e]; rfl
    · rw [if_neg (by omega), if_neg e]
  · rw [if_neg c, if_neg c, if_neg (by omega)]
theorem ww_g_in {ts : List (Nat × Nat)} {i : Nat} {q : Nat × Nat} (hq : ts[i]? = some q) : ww_g ts (i : Int) = q := by
  unfold ww_g
  rw [if_pos (by omega)]
  simp [hq]
theorem ww_end (K : List (Int × Nat × Nat)) (p : Int × Nat × Nat) : ∃ q, (ww_tops (K ++ [p]))[(ww_tops (K ++ [p])).length - 1]? = some q ∧ q.1 + q.2 = p.2.1 + p.2.2 := by
  rw [ww_tops_add]
  generalize ww_tops K = ts
  have app : ∃ q, (ts ++ [(p.2.1, p.2.2)])[(ts ++ [(p.2.1, p.2.2)]).length - 1]? = some q ∧ q.1 + q.2 = p.2.1 + p.2.2 := by
    refine ⟨(p.2.1, p.2.2), ?_, rfl⟩
    simp
  unfold ww_addT
  split
  · rename_i q hq
    split
    · rename_i e
      have hlt : ts.length - 1 < ts.length := by
        by_cases cl : ts.length - 1 < ts.length
        · exact cl
        · rw [List.getElem?_eq_none (by omega)] at hq; cases hq
      refine ⟨(q.1, q.2 + p.2.2), ?_, by simp; omega⟩
      rw [List.length_set, List.getElem?_set, if_pos rfl, if_pos hlt]
    · exact app
  · exact app
theorem ww_tops_nn (K : List (Int × Nat × Nat)) : ww_tops K = [] → K = [] := by
  intro h
  rcases List.eq_nil_or_concat K with e | ⟨K', p, e⟩
  · exact e
  · rw [List.concat_eq_append] at e
    subst e
    obtain ⟨q, hq, -⟩ := ww_end K' p
    rw [h] at hq
    simp at hq
