def p_df (f u : Nat) : Nat := f &&& (63 ^^^ u)
theorem p_d0 : ∀ f : Nat, f < 64 → ∀ u : Nat, u < 64 → p_df f u < 64 := by decide +kernel
theorem p_d1 : ∀ f : Nat, f < 64 → ∀ u : Nat, u < 64 → (u &&& f) = u → (p_df f u &&& u) = 0 ∧ (p_df f u ||| u) = f := by decide +kernel
theorem p_d2 : ∀ f : Nat, f < 64 → ∀ u : Nat, u < 64 → ∀ k : Nat, k < 6 → Nat.testBit (p_df f u) k = true → Nat.testBit u k = false ∧ p_df f (u ||| 2 ^ k) = p_df f u - 2 ^ k := by decide +kernel
theorem p_d2b : ∀ f : Nat, f < 64 → ∀ u : Nat, u < 64 → ∀ k : Nat, k < 6 → Nat.testBit (p_df f u) k = true → (u &&& f) = u → ((u ||| 2 ^ k) &&& f) = (u ||| 2 ^ k) := by decide +kernel
theorem p_d3 : ∀ d : Nat, d < 64 → ∀ u : Nat, u < 64 → (d &&& u) = 0 → p_df (d ||| u) u = d ∧ (u &&& (d ||| u)) = u := by decide +kernel
theorem p_d4a : ∀ f : Nat, f < 64 → ∀ u : Nat, u < 64 → ∀ k : Nat, k < 6 → ((u ||| 2 ^ k) &&& f) = (u ||| 2 ^ k) → Nat.testBit u k = false → (u &&& f) = u := by decide +kernel
theorem p_d4b : ∀ f : Nat, f < 64 → ∀ u : Nat, u < 64 → ∀ k : Nat, k < 6 → ((u ||| 2 ^ k) &&& f) = (u ||| 2 ^ k) → Nat.testBit u k = false → Nat.testBit (p_df f u) k = true := by decide +kernel
theorem p_d4 (f : Nat) (hf : f < 64) (u : Nat) (hu : u < 64) (k : Nat) (hk : k < 6) (h : ((u ||| 2 ^ k) &&& f) = (u ||| 2 ^ k)) (h2 : Nat.testBit u k = false) : (u &&& f) = u ∧ Nat.testBit (p_df f u) k = true := ⟨p_d4a f hf u hu k hk h h2, p_d4b f hf u hu k hk h h2⟩
theorem p_or64 {u k : Nat} (hu : u < 64) (hk : k < 6) : u ||| 2 ^ k < 64 := (p_lt64 u hu _ (p_pw k hk)).1
theorem ww_V_Y {S n : Nat} {free : Nat → Bool} {w : Nat → Nat} {met : Nat → Nat → Bool} {nw : Nat → Nat → Int} {bar : Nat → Nat → Bool} {least most a l b : Nat} {x : Int} (h : ww_V S n free w met nw bar least most a l b x) (hx : 0 ≤ x) : ww_Y S n free w met nw bar least most a b l x := by
  rcases h with ⟨h1, h2⟩ | ⟨h1, h2, h3⟩
  · omega
  · exact h2
theorem ww_V_ge {S n : Nat} {free : Nat → Bool} {w : Nat → Nat} {met : Nat → Nat → Bool} {nw : Nat → Nat → Int} {bar : Nat → Nat → Bool} {least most a l b : Nat} {x y : Int} (h : ww_V S n free w met nw bar least most a l b x) (hy : ww_Y S n free w met nw bar least most a b l y) : 0 ≤ x ∧ y ≤ x := by
  rcases h with ⟨h1, h2⟩ | ⟨h1, h2, h3⟩
  · exact absurd hy (h2 y)
  · exact ⟨h1, h3 y hy⟩
theorem ww_lex_get {P : Int → Int → Prop} {v c : Int} (h : ww_lex P v c) (hv : 0 ≤ v) : P v c := by
  rcases h with ⟨h1, h2⟩ | ⟨h1, h2, h3⟩
  · omega
  · exact h2
theorem ww_lex_ge {P : Int → Int → Prop} {v c x y : Int} (h : ww_lex P v c) (hp : P x y) : 0 ≤ v ∧ (x < v ∨ (x = v ∧ c ≤ y)) := by
  rcases h with ⟨h1, h2⟩ | ⟨h1, h2, h3⟩
  · exact absurd hp (h2 x y)
  · exact ⟨h1, h3 x y hp⟩
section
variable (S n : Nat) (free : Nat → Bool) (w : Nat → Nat) (met : Nat → Nat → Bool) (nw : Nat → Nat → Int) (bar : Nat → Nat → Bool) (least most : Nat) (wo co : Nat → Int) (mE : Nat → Bool) (T : Nat → Nat → Nat → Int)
def ww_TF (a b U : Nat) (v c : Int) (F : Nat) : Prop := F < 64 ∧ (U &&& F) = U ∧ mE F = true ∧ 0 ≤ T a (p_df F U) b ∧ v = p_sum wo (p_df F U) + T a (p_df F U) b ∧ c = p_sum co (p_df F U)
def ww_IB (a b U k F : Nat) : Prop := Nat.testBit (p_df F U) k = true ∧ 0 ≤ T (a + w k) (p_df F U - 2 ^ k) k ∧ T (a + w k) (p_df F U - 2 ^ k) k + nw k b = T a (p_df F U) b
def ww_IF (a b U f F : Nat) : Prop := 0 ≤ T (a + f) (p_df F U) 6 ∧ T (a + f) (p_df F U) 6 = T a (p_df F U) b
theorem ww_TF_C {a b U : Nat} {F : Nat} {x : Int} (hU : U < 64) (hF : F < 64) (hs : (U &&& F) = U) (hm : mE F = true) (hy : ww_Y S n free w met nw bar least most a b (p_df F U) x) : ww_C S n free w met nw bar least most wo co mE a b U (p_sum wo (p_df F U) + x) (p_sum co (p_df F U)) := by
  obtain ⟨h1, h2⟩ := p_d1 F hF U hU hs
  exact ⟨p_df F U, x, p_d0 F hF U hU, hy, h1, by rw [h2]; exact hm, rfl, rfl⟩
theorem ww_pick_A (hn : n ≤ 6) (hnw : ∀ k b, 0 ≤ nw k b ∧ nw k b ≤ 100000) {a b U k : Nat} (ha : a < S) (hf : free a = false) (hb : b < 8) (hU : U < 64) (hk : k < n) (h1 : w k ≤ ww_op free (S - a) a) (h2 : met k a = true) (h3 : bar k b = false) (hwk : 1 ≤ w k)
    (hV : ∀ a l b, a ≤ S → l < 64 → b < 8 → ww_V S n free w met nw bar least most a l b (T a l b)) {v c v' c' : Int} (hB : ww_B S n free w met nw bar least most wo co mE a b U v c) (hB' : ww_B S n free w met nw bar least most wo co mE (a + w k) k (U ||| 2 ^ k) v' c') {F : Nat} (hF : ww_TF wo co mE T a b U v c F) (hI : ww_IB w nw T a b U k F) :
    Nat.testBit U k = false ∧ 0 ≤ v' ∧ v' + (wo k + nw k b) = v ∧ c' + co k = c := by
  have hop := ww_op_le free (S - a) a
  obtain ⟨f1, f2, f3, f4, f5, f6⟩ := hF
  obtain ⟨i1, i2, i3⟩ := hI
  obtain ⟨d1, d2⟩ := p_d2 F f1 U hU k (by omega) i1
  have d3 := p_d2b F f1 U hU k (by omega) i1 f2
  have hU' := p_or64 hU (show k < 6 by omega)
  have hE : p_df F U - 2 ^ k < 64 := p_s64 k (p_d0 F f1 U hU)
  have y1 := ww_V_Y (hV (a + w k) (p_df F U - 2 ^ k) k (by omega) hE (by omega)) i2
  rw [← d2] at y1
  have c1 := ww_TF_C S n free w met nw bar least most wo co mE hU' f1 d3 f3 y1
  have g1 := ww_lex_ge hB' c1
  have c2 := ww_lex_get hB' g1.1
  have c3 := (ww_C_step S n free w met nw bar least most wo co mE hn ha hf b hU (v' + (wo k + nw k b)) (c' + co k)).2 (Or.inl ⟨k, hk, d1, h1, h2, h3, v', c', c2, rfl, rfl⟩)
  have g2 := ww_lex_ge hB c3
  have s1 := p_sum_cl wo (p_d0 F f1 U hU) (show k < 6 by omega) i1
  have s2 := p_sum_cl co (p_d0 F f1 U hU) (show k < 6 by omega) i1
  rw [d2] at g1
  refine ⟨d1, g1.1, ?_, ?_⟩ <;> omega
theorem ww_pick_C (hn : n ≤ 6) (hnw : ∀ k b, 0 ≤ nw k b ∧ nw k b ≤ 100000) {a b U k : Nat} (ha : a < S) (hf : free a = false) (hb : b < 8) (hU : U < 64) (hk : k < n) (h1 : w k ≤ ww_op free (S - a) a) (h2 : met k a = true) (h3 : bar k b = false) (hwk : 1 ≤ w k)
    (hV : ∀ a l b, a ≤ S → l < 64 → b < 8 → ww_V S n free w met nw bar least most a l b (T a l b)) {v c v' c' : Int} (hB : ww_B S n free w met nw bar least most wo co mE a b U v c) (hG : Nat.testBit U k = false ∧ 0 ≤ v' ∧ v' + (wo k + nw k b) = v ∧ c' + co k = c) (F : Nat) :
    (ww_TF wo co mE T a b U v c F ∧ ww_IB w nw T a b U k F) ↔ ww_TF wo co mE T (a + w k) k (U ||| 2 ^ k) v' c' F := by
  have hop := ww_op_le free (S - a) a
  obtain ⟨e1, e2, e3, e4⟩ := hG
  have hU' := p_or64 hU (show k < 6 by omega)
  constructor
  · rintro ⟨⟨f1, f2, f3, f4, f5, f6⟩, ⟨i1, i2, i3⟩⟩
    obtain ⟨d1, d2⟩ := p_d2 F f1 U hU k (by omega) i1
    have d3 := p_d2b F f1 U hU k (by omega) i1 f2
    have s1 := p_sum_cl wo (p_d0 F f1 U hU) (show k < 6 by omega) i1
    have s2 := p_sum_cl co (p_d0 F f1 U hU) (show k < 6 by omega) i1
    unfold ww_TF
    rw [d2]
    refine ⟨f1, d3, f3, i2, ?_, ?_⟩ <;> omega
  · rintro ⟨f1, f2, f3, f4, f5, f6⟩
    obtain ⟨d4, i1⟩ := p_d4 F f1 U hU k (by omega) f2 e1
    obtain ⟨d1, d2⟩ := p_d2 F f1 U hU k (by omega) i1
    rw [d2] at f4 f5 f6
    have hE : p_df F U - 2 ^ k < 64 := p_s64 k (p_d0 F f1 U hU)
    have y1 := ww_V_Y (hV (a + w k) (p_df F U - 2 ^ k) k (by omega) hE (by omega)) f4
    have y2 := (ww_Y_step S n free w met nw bar least most ha hf b (p_df F U) (T (a + w k) (p_df F U - 2 ^ k) k + nw k b)).2 (Or.inl ⟨k, hk, i1, h1, h2, h3, _, rfl, y1⟩)
    have v1 := hV a (p_df F U) b (by omega) (p_d0 F f1 U hU) hb
    have g1 := ww_V_ge v1 y2
    have c1 := ww_TF_C S n free w met nw bar least most wo co mE hU f1 d4 f3 (ww_V_Y v1 g1.1)
    have g2 := ww_lex_ge hB c1
    have s1 := p_sum_cl wo (p_d0 F f1 U hU) (show k < 6 by omega) i1
    have s2 := p_sum_cl co (p_d0 F f1 U hU) (show k < 6 by omega) i1
    refine ⟨⟨f1, d4, f3, g1.1, ?_, ?_⟩, ⟨i1, f4, ?_⟩⟩ <;> omega
theorem ww_pick_B (hn : n ≤ 6) {a b U : Nat} (hU : U < 64) (hb : b < 8) (ha : a ≤ S)
    (hV : ∀ a l b, a ≤ S → l < 64 → b < 8 → ww_V S n free w met nw bar least most a l b (T a l b)) {v c : Int} (hB : ww_B S n free w met nw bar least most wo co mE a b U v c) (hv : 0 ≤ v) : ∃ F, ww_TF wo co mE T a b U v c F := by
  obtain ⟨D, z, h1, h2, h3, h4, h5, h6⟩ := ww_lex_get hB hv
  obtain ⟨d1, d2⟩ := p_d3 D h1 U hU h3
  have hF : D ||| U < 64 := (p_lt64 D h1 U hU).1
  have v1 := hV a D b ha h1 hb
  have g1 := ww_V_ge v1 h2
  have y1 := ww_V_Y v1 g1.1
  have c1 : ww_C S n free w met nw bar least most wo co mE a b U (p_sum wo D + T a D b) (p_sum co D) := ⟨D, _, h1, y1, h3, h4, rfl, rfl⟩
  have g2 := ww_lex_ge hB c1
  refine ⟨D ||| U, hF, d2, h4, ?_⟩
  rw [d1]
  refine ⟨g1.1, ?_, h6⟩
  omega
theorem ww_fill_A (hn : n ≤ 6) {a b U f : Nat} (ha : a < S) (hf : free a = false) (hb : b < 8) (hU : U < 64) (h1 : least ≤ f) (h2 : f ≤ most) (h3 : f ≤ ww_op free (S - a) a) (hb6 : b ≠ 6)
    (hV : ∀ a l b, a ≤ S → l < 64 → b < 8 → ww_V S n free w met nw bar least most a l b (T a l b)) {v c v' c' : Int} (hB : ww_B S n free w met nw bar least most wo co mE a b U v c) (hB' : ww_B S n free w met nw bar least most wo co mE (a + f) 6 U v' c') {F : Nat} (hF : ww_TF wo co mE T a b U v c F) (hI : ww_IF T a b U f F) :
    0 ≤ v' ∧ v' = v ∧ c' = c := by
  have hop := ww_op_le free (S - a) a
  obtain ⟨f1, f2, f3, f4, f5, f6⟩ := hF
  obtain ⟨i1, i2⟩ := hI
  have y1 := ww_V_Y (hV (a + f) (p_df F U) 6 (by omega) (p_d0 F f1 U hU) (by omega)) i1
  have c1 := ww_TF_C S n free w met nw bar least most wo co mE hU f1 f2 f3 y1
  have g1 := ww_lex_ge hB' c1
  have c2 := ww_lex_get hB' g1.1
  have c3 := (ww_C_step S n free w met nw bar least most wo co mE hn ha hf b hU v' c').2 (Or.inr ⟨hb6, f, h1, h2, h3, c2⟩)
  have g2 := ww_lex_ge hB c3
  refine ⟨g1.1, ?_, ?_⟩ <;> omega
theorem ww_fill_C {a b U f : Nat} (ha : a < S) (hf : free a = false) (hb : b < 8) (hU : U < 64) (h1 : least ≤ f) (h2 : f ≤ most) (h3 : f ≤ ww_op free (S - a) a) (hb6 : b ≠ 6)
    (hV : ∀ a l b, a ≤ S → l < 64 → b < 8 → ww_V S n free w met nw bar least most a l b (T a l b)) {v c v' c' : Int} (hB : ww_B S n free w met nw bar least most wo co mE a b U v c) (hG : 0 ≤ v' ∧ v' = v ∧ c' = c) (F : Nat) :
    (ww_TF wo co mE T a b U v c F ∧ ww_IF T a b U f F) ↔ ww_TF wo co mE T (a + f) 6 U v' c' F := by
  have hop := ww_op_le free (S - a) a
  obtain ⟨e1, e2, e3⟩ := hG
  constructor
  · rintro ⟨⟨f1, f2, f3, f4, f5, f6⟩, ⟨i1, i2⟩⟩
    refine ⟨f1, f2, f3, i1, ?_, ?_⟩ <;> omega
  · rintro ⟨f1, f2, f3, f4, f5, f6⟩
    have y1 := ww_V_Y (hV (a + f) (p_df F U) 6 (by omega) (p_d0 F f1 U hU) (by omega)) f4
    have y2 := (ww_Y_step S n free w met nw bar least most ha hf b (p_df F U) _).2 (Or.inr ⟨hb6, f, h1, h2, h3, y1⟩)
    have v1 := hV a (p_df F U) b (by omega) (p_d0 F f1 U hU) hb
    have g1 := ww_V_ge v1 y2
    have c1 := ww_TF_C S n free w met nw bar least most wo co mE hU f1 f2 f3 (ww_V_Y v1 g1.1)
    have g2 := ww_lex_ge hB c1
    refine ⟨⟨f1, f2, f3, g1.1, ?_, ?_⟩, ⟨f4, ?_⟩⟩ <;> omega
theorem ww_some (hn : n ≤ 6) (hw : ∀ k, k < n → 1 ≤ w k) {a b U : Nat} (ha : a < S) (hf : free a = false) (hb : b < 8) (hU : U < 64) (hU2 : U < 2 ^ n) (Bw Bc : Nat → Nat → Nat → Int)
    (hB : ∀ a b U, a ≤ S → b < 8 → U < 2 ^ n → ww_B S n free w met nw bar least most wo co mE a b U (Bw a b U) (Bc a b U)) (hv : 0 ≤ Bw a b U) :
    (∃ k, k < n ∧ Nat.testBit U k = false ∧ w k ≤ ww_op free (S - a) a ∧ met k a = true ∧ bar k b = false ∧ 0 ≤ Bw (a + w k) k (U ||| 2 ^ k) ∧ Bw (a + w k) k (U ||| 2 ^ k) + (wo k + nw k b) = Bw a b U ∧ Bc (a + w k) k (U ||| 2 ^ k) + co k = Bc a b U) ∨
      (b ≠ 6 ∧ ∃ f, least ≤ f ∧ f ≤ most ∧ f ≤ ww_op free (S - a) a ∧ 0 ≤ Bw (a + f) 6 U ∧ Bw (a + f) 6 U = Bw a b U ∧ Bc (a + f) 6 U = Bc a b U) := by
  have hop := ww_op_le free (S - a) a
  have h0 := hB a b U (by omega) hb hU2
  have c0 := ww_lex_get h0 hv
  rcases (ww_C_step S n free w met nw bar least most wo co mE hn ha hf b hU _ _).1 c0 with ⟨k, q1, q2, q3, q4, q5, x', y', q6, q7, q8⟩ | ⟨q1, f, q2, q3, q4, q5⟩
  · have h1 := hB (a + w k) k (U ||| 2 ^ k) (by omega) (by omega) (p_b7 U hU n (by omega) hU2 k q1)
    have g1 := ww_lex_ge h1 q6
    have c3 := (ww_C_step S n free w met nw bar least most wo co mE hn ha hf b hU _ _).2 (Or.inl ⟨k, q1, q2, q3, q4, q5, _, _, ww_lex_get h1 g1.1, rfl, rfl⟩)
    have g2 := ww_lex_ge h0 c3
    refine Or.inl ⟨k, q1, q2, q3, q4, q5, g1.1, ?_, ?_⟩ <;> omega
  · have h1 := hB (a + f) 6 U (by omega) (by omega) hU2
    have g1 := ww_lex_ge h1 q5
    have c3 := (ww_C_step S n free w met nw bar least most wo co mE hn ha hf b hU _ _).2 (Or.inr ⟨q1, f, q2, q3, q4, ww_lex_get h1 g1.1⟩)
    have g2 := ww_lex_ge h0 c3
    refine Or.inr ⟨q1, f, q2, q3, q4, g1.1, ?_, ?_⟩ <;> omega
end
