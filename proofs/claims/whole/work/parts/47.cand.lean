theorem p_b7 : ∀ u : Nat, u < 64 → ∀ n : Nat, n < 7 → u < 2 ^ n → ∀ k : Nat, k < n → u ||| 2 ^ k < 2 ^ n := by decide +kernel
theorem p_b8 : ∀ e : Nat, e < 64 → ∀ u : Nat, u < 64 → ∀ k : Nat, k < 6 → (e &&& (u ||| 2 ^ k)) = 0 → Nat.testBit e k = false := by decide +kernel
theorem p_addsub (e k : Nat) : e + 2 ^ k - 2 ^ k = e := Nat.add_sub_cancel e (2 ^ k)
section
variable (S n : Nat) (free : Nat → Bool) (w : Nat → Nat) (met : Nat → Nat → Bool) (nw : Nat → Nat → Int) (bar : Nat → Nat → Bool) (least most : Nat) (wo co : Nat → Int) (mE : Nat → Bool)
def ww_C (a b U : Nat) (x y : Int) : Prop := ∃ D z, D < 64 ∧ ww_Y S n free w met nw bar least most a b D z ∧ (D &&& U) = 0 ∧ mE (D ||| U) = true ∧ x = p_sum wo D + z ∧ y = p_sum co D
theorem ww_C_end (b U : Nat) (x y : Int) : ww_C S n free w met nw bar least most wo co mE S b U x y ↔ (mE U = true ∧ x = 0 ∧ y = 0) := by
  constructor
  · rintro ⟨D, z, h1, h2, h3, h4, h5, h6⟩
    obtain ⟨q1, q2⟩ := (ww_Y_end S n free w met nw bar least most b D z).1 h2
    subst q1; subst q2
    rw [p_sum_0] at h5 h6
    rw [Nat.zero_or] at h4
    exact ⟨h4, by omega, h6⟩
  · rintro ⟨h1, h2, h3⟩
    refine ⟨0, 0, by omega, (ww_Y_end S n free w met nw bar least most b 0 0).2 ⟨rfl, rfl⟩, Nat.zero_and U, ?_, ?_, ?_⟩
    · rw [Nat.zero_or]; exact h1
    · rw [p_sum_0]; omega
    · rw [p_sum_0]; exact h3
theorem ww_C_free {a : Nat} (ha : a < S) (hf : free a = true) (b U : Nat) (x y : Int) : ww_C S n free w met nw bar least most wo co mE a b U x y ↔ ww_C S n free w met nw bar least most wo co mE (a + 1) 7 U x y := by
  constructor
  · rintro ⟨D, z, h1, h2, h3⟩
    exact ⟨D, z, h1, (ww_Y_free S n free w met nw bar least most ha hf b D z).1 h2, h3⟩
  · rintro ⟨D, z, h1, h2, h3⟩
    exact ⟨D, z, h1, (ww_Y_free S n free w met nw bar least most ha hf b D z).2 h2, h3⟩
theorem ww_C_step (hn : n ≤ 6) {a : Nat} (ha : a < S) (hf : free a = false) (b : Nat) {U : Nat} (hU : U < 64) (x y : Int) : ww_C S n free w met nw bar least most wo co mE a b U x y ↔
    ((∃ k, k < n ∧ Nat.testBit U k = false ∧ w k ≤ ww_op free (S - a) a ∧ met k a = true ∧ bar k b = false ∧ ∃ x' y', ww_C S n free w met nw bar least most wo co mE (a + w k) k (U ||| 2 ^ k) x' y' ∧ x = x' + (wo k + nw k b) ∧ y = y' + co k) ∨
        (b ≠ 6 ∧ ∃ f, least ≤ f ∧ f ≤ most ∧ f ≤ ww_op free (S - a) a ∧ ww_C S n free w met nw bar least most wo co mE (a + f) 6 U x y)) := by
  constructor
  · rintro ⟨D, z, h1, h2, h3, h4, h5, h6⟩
    rcases (ww_Y_step S n free w met nw bar least most ha hf b D z).1 h2 with ⟨k, q1, q2, q3, q4, q5, t, q6, q7⟩ | ⟨q1, f, q2, q3, q4, q5⟩
    · obtain ⟨r1, r2, -⟩ := p_b1 D h1 k (by omega) q2
      have e : D = (D - 2 ^ k) + 2 ^ k := by rw [Nat.sub_add_cancel r1]
      have hE := p_s64 k h1
      rw [e] at h3 h4
      obtain ⟨r3, r4⟩ := (p_b3a (D - 2 ^ k) hE U hU k (by omega) r2).1 h3
      rw [p_b3b (D - 2 ^ k) hE U hU k (by omega) r2 r3] at h4
      rw [p_sum_cl wo h1 (by omega) q2] at h5
      rw [p_sum_cl co h1 (by omega) q2] at h6
      exact Or.inl ⟨k, q1, r3, q3, q4, q5, _, _, ⟨D - 2 ^ k, t, hE, q7, r4, h4, rfl, rfl⟩, by omega, h6⟩
    · exact Or.inr ⟨q1, f, q2, q3, q4, D, z, h1, q5, h3, h4, h5, h6⟩
  · rintro (⟨k, q1, q2, q3, q4, q5, x', y', ⟨E, t, h1, h2, h3, h4, h5, h6⟩, q6, q7⟩ | ⟨q1, f, q2, q3, q4, D, z, h1, h2, h3⟩)
    · have r2 := p_b8 E h1 U hU k (by omega) h3
      obtain ⟨r3, r4, r5⟩ := p_b2 E h1 k (by omega) r2
      refine ⟨E + 2 ^ k, t + nw k b, r3, ?_, ?_, ?_, ?_, ?_⟩
      · refine (ww_Y_step S n free w met nw bar least most ha hf b _ _).2 (Or.inl ⟨k, q1, r5, q3, q4, q5, t, rfl, ?_⟩)
        rw [p_addsub]; exact h2
      · exact (p_b3a E h1 U hU k (by omega) r2).2 ⟨q2, h3⟩
      · rw [p_b3b E h1 U hU k (by omega) r2 q2]; exact h4
      · rw [p_sum_cl wo r3 (by omega) r5, p_addsub]; omega
      · rw [p_sum_cl co r3 (by omega) r5, p_addsub]; omega
    · exact ⟨D, z, h1, (ww_Y_step S n free w met nw bar least most ha hf b D z).2 (Or.inr ⟨q1, f, q2, q3, q4, h2⟩), h3⟩
theorem ww_C_bd (hnw : ∀ k b, 0 ≤ nw k b ∧ nw k b ≤ 100000) (hw : ∀ k, k < n → 1 ≤ w k) (hwo : ∀ k, 0 ≤ wo k ∧ wo k ≤ 100000) (hco : ∀ k, 0 ≤ co k ∧ co k ≤ 100000) {a b U : Nat} {x y : Int} (h : ww_C S n free w met nw bar least most wo co mE a b U x y) : a ≤ S ∧ 0 ≤ x ∧ x ≤ 600000 + 100000 * ((S - a : Nat) : Int) ∧ 0 ≤ y ∧ y ≤ 600000 := by
  obtain ⟨D, z, h1, h2, h3, h4, h5, h6⟩ := h
  have q1 := ww_Y_bd S n free w met nw bar least most hnw hw h2
  have q2 := p_sum_nn wo (fun k => (hwo k).1) D
  have q3 := p_sum_le wo 100000 (by omega) (fun k => (hwo k).2) D
  have q4 := p_sum_nn co (fun k => (hco k).1) D
  have q5 := p_sum_le co 100000 (by omega) (fun k => (hco k).2) D
  omega
def ww_B (a b U : Nat) (v c : Int) : Prop := ww_lex (ww_C S n free w met nw bar least most wo co mE a b U) v c
end
theorem ww_lex_add {P Q : Int → Int → Prop} {v c x y : Int} (hx : 0 ≤ x) (h : ww_lex P v c) (hQ : ∀ a b, Q a b ↔ (P a b ∨ (a = x ∧ b = y))) :
    ww_lex Q (if v < x ∨ (x = v ∧ y < c) then x else v) (if v < x ∨ (x = v ∧ y < c) then y else c) := by
  by_cases cc : v < x ∨ (x = v ∧ y < c)
  · rw [if_pos cc, if_pos cc]
    refine Or.inr ⟨hx, (hQ x y).2 (Or.inr ⟨rfl, rfl⟩), ?_⟩
    intro a b hab
    rcases (hQ a b).1 hab with q | q
    · rcases h with ⟨h1, h2⟩ | ⟨h1, h2, h3⟩
      · exact absurd q (h2 a b)
      · have := h3 a b q; omega
    · omega
  · rw [if_neg cc, if_neg cc]
    rcases h with ⟨h1, h2⟩ | ⟨h1, h2, h3⟩
    · omega
    · refine Or.inr ⟨h1, (hQ v c).2 (Or.inl h2), ?_⟩
      intro a b hab
      rcases (hQ a b).1 hab with q | q
      · exact h3 a b q
      · omega
theorem ww_lex_uniq {P : Int → Int → Prop} {v c v' c' : Int} (h : ww_lex P v c) (h' : ww_lex P v' c') : v = v' ∧ (0 ≤ v → c = c') := by
  rcases h with ⟨h1, h2⟩ | ⟨h1, h2, h3⟩ <;> rcases h' with ⟨g1, g2⟩ | ⟨g1, g2, g3⟩
  · omega
  · exact absurd g2 (h2 _ _)
  · exact absurd h2 (g2 _ _)
  · have := h3 _ _ g2
    have := g3 _ _ h2
    omega
