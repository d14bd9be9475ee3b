theorem ww_first {P : Nat → Prop} : ∀ n k, k < n → P k → ∃ j, j ≤ k ∧ P j ∧ ∀ i, i < j → ¬ P i
  | 0, k, h, _ => by omega
  | n + 1, k, h, hp => by
    by_cases c : ∃ i, i < k ∧ P i
    · obtain ⟨i, h1, h2⟩ := c
      obtain ⟨j, q1, q2, q3⟩ := ww_first n i (by omega) h2
      exact ⟨j, by omega, q2, q3⟩
    · exact ⟨k, Nat.le_refl _, hp, fun i hi hpi => c ⟨i, hi, hpi⟩⟩
theorem ww_first2 {P : Nat → Prop} (l : Nat) : ∀ n k, k < n → l ≤ k → P k → ∃ j, l ≤ j ∧ j ≤ k ∧ P j ∧ ∀ i, l ≤ i → i < j → ¬ P i
  | 0, k, h, _, _ => by omega
  | n + 1, k, h, hl, hp => by
    by_cases c : ∃ i, l ≤ i ∧ i < k ∧ P i
    · obtain ⟨i, h0, h1, h2⟩ := c
      obtain ⟨j, q0, q1, q2, q3⟩ := ww_first2 l n i (by omega) h0 h2
      exact ⟨j, q0, by omega, q2, q3⟩
    · exact ⟨k, hl, Nat.le_refl _, hp, fun i h0 hi hpi => c ⟨i, h0, hi, hpi⟩⟩
section
variable (S n : Nat) (free : Nat → Bool) (w : Nat → Nat) (met : Nat → Nat → Bool) (nw : Nat → Nat → Int) (bar : Nat → Nat → Bool) (least most : Nat) (wo co : Nat → Int) (Bw Bc : Nat → Nat → Nat → Int)
def ww_GI (a b U k : Nat) : Prop := Nat.testBit U k = false ∧ w k ≤ ww_op free (S - a) a ∧ met k a = true ∧ bar k b = false ∧ 0 ≤ Bw (a + w k) k (U ||| 2 ^ k) ∧ Bw (a + w k) k (U ||| 2 ^ k) + (wo k + nw k b) = Bw a b U ∧ Bc (a + w k) k (U ||| 2 ^ k) + co k = Bc a b U
def ww_GF (a b U f : Nat) : Prop := f ≤ ww_op free (S - a) a ∧ 0 ≤ Bw (a + f) 6 U ∧ Bw (a + f) 6 U = Bw a b U ∧ Bc (a + f) 6 U = Bc a b U
def ww_step (a b U : Nat) (p : Int × Nat × Nat) (a' b' U' : Nat) : Prop :=
  (∃ k, k < n ∧ ww_GI S free w met nw bar wo co Bw Bc a b U k ∧ (∀ j, j < k → ¬ ww_GI S free w met nw bar wo co Bw Bc a b U j) ∧ p = ((k : Int), a, w k) ∧ a' = a + w k ∧ b' = k ∧ U' = (U ||| 2 ^ k)) ∨
  ((∀ k, k < n → ¬ ww_GI S free w met nw bar wo co Bw Bc a b U k) ∧ b ≠ 6 ∧ ∃ f, least ≤ f ∧ f ≤ most ∧ ww_GF S free Bw Bc a b U f ∧ (∀ g, least ≤ g → g < f → ¬ ww_GF S free Bw Bc a b U g) ∧ p = (-1, a, f) ∧ a' = a + f ∧ b' = 6 ∧ U' = U)
def ww_path : Nat → Nat → Nat → Nat → List (Int × Nat × Nat) → Nat → Prop
  | 0, a, _, U, L, U' => a = S ∧ L = [] ∧ U' = U
  | m + 1, a, b, U, L, U' => a < S ∧ ((free a = true ∧ ww_path m (a + 1) 7 U L U') ∨ (free a = false ∧ ∃ p a1 b1 U1 L1, ww_step S n free w met nw bar least most wo co Bw Bc a b U p a1 b1 U1 ∧ L = p :: L1 ∧ ww_path m a1 b1 U1 L1 U'))
end
theorem ww_step_ex {S n : Nat} {free : Nat → Bool} {w : Nat → Nat} {met : Nat → Nat → Bool} {nw : Nat → Nat → Int} {bar : Nat → Nat → Bool} {least most : Nat} {wo co : Nat → Int} {mE : Nat → Bool} {Bw Bc : Nat → Nat → Nat → Int} (hn : n ≤ 6) (hw : ∀ k, k < n → 1 ≤ w k) (hle : 1 ≤ least)
    (hB : ∀ a b U, a ≤ S → b < 8 → U < 2 ^ n → ww_B S n free w met nw bar least most wo co mE a b U (Bw a b U) (Bc a b U)) {a b U : Nat} (ha : a < S) (hf : free a = false) (hb : b < 8) (hU : U < 2 ^ n) (hv : 0 ≤ Bw a b U) :
    ∃ p a1 b1 U1, ww_step S n free w met nw bar least most wo co Bw Bc a b U p a1 b1 U1 ∧ a < a1 ∧ a1 ≤ S ∧ b1 < 8 ∧ U1 < 2 ^ n ∧ 0 ≤ Bw a1 b1 U1 := by
  have h64 := p_2n n (by omega)
  have hop := ww_op_le free (S - a) a
  by_cases c : ∃ k, k < n ∧ ww_GI S free w met nw bar wo co Bw Bc a b U k
  · obtain ⟨k, h1, h2⟩ := c
    obtain ⟨j, q1, q2, q3⟩ := ww_first (P := ww_GI S free w met nw bar wo co Bw Bc a b U) n k h1 h2
    have w1 := hw j (by omega)
    have w2 := q2.2.1
    exact ⟨_, _, _, _, Or.inl ⟨j, by omega, q2, q3, rfl, rfl, rfl, rfl⟩, by omega, by omega, by omega, p_b7 U (by omega) n (by omega) hU j (by omega), q2.2.2.2.2.1⟩
  · have hno : ∀ k, k < n → ¬ ww_GI S free w met nw bar wo co Bw Bc a b U k := fun k hk hg => c ⟨k, hk, hg⟩
    rcases ww_some S n free w met nw bar least most wo co mE hn hw ha hf hb (by omega) hU Bw Bc hB hv with ⟨k, h1, h2, h3, h4, h5, h6, h7, h8⟩ | ⟨h1, f, h2, h3, h4, h5, h6, h7⟩
    · exact absurd ⟨h2, h3, h4, h5, h6, h7, h8⟩ (hno k h1)
    · obtain ⟨j, q0, q1, q2, q3⟩ := ww_first2 (P := ww_GF S free Bw Bc a b U) least (f + 1) f (by omega) h2 ⟨h4, h5, h6, h7⟩
      have w2 := q2.1
      exact ⟨_, _, _, _, Or.inr ⟨hno, h1, j, q0, by omega, q2, q3, rfl, rfl, rfl, rfl⟩, by omega, by omega, by omega, hU, q2.2.1⟩
theorem ww_path_ex {S n : Nat} {free : Nat → Bool} {w : Nat → Nat} {met : Nat → Nat → Bool} {nw : Nat → Nat → Int} {bar : Nat → Nat → Bool} {least most : Nat} {wo co : Nat → Int} {mE : Nat → Bool} {Bw Bc : Nat → Nat → Nat → Int} (hn : n ≤ 6) (hw : ∀ k, k < n → 1 ≤ w k) (hle : 1 ≤ least)
    (hB : ∀ a b U, a ≤ S → b < 8 → U < 2 ^ n → ww_B S n free w met nw bar least most wo co mE a b U (Bw a b U) (Bc a b U)) :
    ∀ d a b U, S - a ≤ d → a ≤ S → b < 8 → U < 2 ^ n → 0 ≤ Bw a b U → ∃ m L U', ww_path S n free w met nw bar least most wo co Bw Bc m a b U L U' ∧ m ≤ S - a
  | 0, a, b, U, h, ha, _, _, _ => ⟨0, [], U, ⟨by omega, rfl, rfl⟩, by omega⟩
  | d + 1, a, b, U, h, ha, hb, hU, hv => by
    by_cases e : a = S
    · exact ⟨0, [], U, ⟨e, rfl, rfl⟩, by omega⟩
    · by_cases c : free a = true
      · have h1 := hB a b U ha hb hU
        have h2 := hB (a + 1) 7 U (by omega) (by omega) hU
        have h3 := (ww_lex_iff (ww_C_free S n free w met nw bar least most wo co mE (by omega) c b U) _ _).1 h1
        have h4 := (ww_lex_uniq h3 h2).1
        obtain ⟨m, L, U', q1, q2⟩ := ww_path_ex hn hw hle hB d (a + 1) 7 U (by omega) (by omega) (by omega) hU (by omega)
        exact ⟨m + 1, L, U', ⟨by omega, Or.inl ⟨c, q1⟩⟩, by omega⟩
      · have c' : free a = false := by simpa using c
        obtain ⟨p, a1, b1, U1, h1, h2, h3, h4, h5, h6⟩ := ww_step_ex hn hw hle hB (by omega) c' hb hU hv
        obtain ⟨m, L, U', q1, q2⟩ := ww_path_ex hn hw hle hB d a1 b1 U1 (by omega) h3 h4 h5 h6
        exact ⟨m + 1, p :: L, U', ⟨by omega, Or.inr ⟨c', p, a1, b1, U1, L, h1, rfl, q1⟩⟩, by omega⟩
def ww_en (K : List Nat) (v : Nat → Int32) (o : Nat) : Prop := ∀ j x, K[j]? = some x → v (o + j) = p_I (x : Nat)
def ww_pl (L : List (Int × Nat × Nat)) (vi va vs : Nat → Int32) : Prop := ∀ j (p : Int × Nat × Nat), L[j]? = some p → vi j = p_I p.1 ∧ va j = p_I (p.2.1 : Nat) ∧ vs j = p_I (p.2.2 : Nat)
theorem ww_pl_add {L : List (Int × Nat × Nat)} {vi va vs : Nat → Int32} (h : ww_pl L vi va vs) (p : Int × Nat × Nat) : ww_pl (L ++ [p]) (upd vi L.length (p_I p.1)) (upd va L.length (p_I (p.2.1 : Nat))) (upd vs L.length (p_I (p.2.2 : Nat))) := by
  intro j q hq
  rw [p_u, p_u, p_u]
  by_cases c : j < L.length
  · rw [List.getElem?_append_left c] at hq
    rw [if_neg (by omega), if_neg (by omega), if_neg (by omega)]
    exact h j q hq
  · rw [List.getElem?_append_right (by omega)] at hq
    by_cases e : j = L.length
    · rw [e, Nat.sub_self] at hq
      simp at hq
      rw [if_pos e, if_pos e, if_pos e, hq]
      exact ⟨rfl, rfl, rfl⟩
    · rw [List.getElem?_eq_none (by simp; omega)] at hq
      cases hq
