def ww_op (free : Nat → Bool) : Nat → Nat → Nat
  | 0, _ => 0
  | d + 1, a => if free a = true then 0 else ww_op free d (a + 1) + 1
def ww_rm (free : Nat → Bool) : Nat → Nat → Nat
  | 0, _ => 0
  | d + 1, a => (if free a = true then 0 else 1) + ww_rm free d (a + 1)
theorem ww_op_le (free : Nat → Bool) : ∀ d a, ww_op free d a ≤ d
  | 0, _ => Nat.le_refl _
  | d + 1, a => by
    unfold ww_op
    have := ww_op_le free d (a + 1)
    split <;> omega
theorem ww_rm_op (free : Nat → Bool) : ∀ f d a, f ≤ ww_op free d a → f + ww_rm free (d - f) (a + f) ≤ ww_rm free d a
  | 0, d, a, _ => by simp
  | f + 1, 0, a, h => by simp [ww_op] at h
  | f + 1, d + 1, a, h => by
    unfold ww_op at h
    split at h
    · omega
    · rename_i hf
      have := ww_rm_op free f d (a + 1) (by omega)
      rw [show d + 1 - (f + 1) = d - f by omega, show a + (f + 1) = a + 1 + f by omega]
      conv => rhs; unfold ww_rm
      rw [if_neg hf]
      omega
theorem ww_rm_le (free : Nat → Bool) : ∀ d a, ww_rm free d a ≤ d
  | 0, _ => Nat.le_refl _
  | d + 1, a => by
    unfold ww_rm
    have := ww_rm_le free d (a + 1)
    split <;> omega

section
variable (S n : Nat) (free : Nat → Bool) (w : Nat → Nat) (met : Nat → Nat → Bool) (nw : Nat → Nat → Int) (bar : Nat → Nat → Bool) (least most : Nat)

def ww_W : Nat → Nat → Nat → Nat → Int → Prop
  | 0, a, _, D, x => a = S ∧ D = 0 ∧ x = 0
  | m + 1, a, b, D, x => a < S ∧ ((free a = true ∧ ww_W m (a + 1) 7 D x) ∨
      (free a = false ∧ ((∃ k, k < n ∧ Nat.testBit D k = true ∧ w k ≤ ww_op free (S - a) a ∧ met k a = true ∧ bar k b = false ∧ ∃ y, x = y + nw k b ∧ ww_W m (a + w k) k (D - 2 ^ k) y) ∨
        (b ≠ 6 ∧ ∃ f, least ≤ f ∧ f ≤ most ∧ f ≤ ww_op free (S - a) a ∧ ww_W m (a + f) 6 D x))))
def ww_Y (a b D : Nat) (x : Int) : Prop := ∃ m, ww_W S n free w met nw bar least most m a b D x

theorem ww_Y_end (b D : Nat) (x : Int) : ww_Y S n free w met nw bar least most S b D x ↔ D = 0 ∧ x = 0 := by
  constructor
  · rintro ⟨m, h⟩
    cases m with
    | zero => exact ⟨h.2.1, h.2.2⟩
    | succ m => exact absurd h.1 (Nat.lt_irrefl _)
  · rintro ⟨h1, h2⟩
    exact ⟨0, rfl, h1, h2⟩
theorem ww_Y_free {a : Nat} (ha : a < S) (hf : free a = true) (b D : Nat) (x : Int) : ww_Y S n free w met nw bar least most a b D x ↔ ww_Y S n free w met nw bar least most (a + 1) 7 D x := by
  constructor
  · rintro ⟨m, h⟩
    cases m with
    | zero => exact absurd h.1 (Nat.ne_of_lt ha)
    | succ m =>
      rcases h.2 with h | h
      · exact ⟨m, h.2⟩
      · rw [hf] at h; exact absurd h.1 (by decide)
  · rintro ⟨m, h⟩
    exact ⟨m + 1, ha, Or.inl ⟨hf, h⟩⟩
theorem ww_Y_step {a : Nat} (ha : a < S) (hf : free a = false) (b D : Nat) (x : Int) : ww_Y S n free w met nw bar least most a b D x ↔
    ((∃ k, k < n ∧ Nat.testBit D k = true ∧ w k ≤ ww_op free (S - a) a ∧ met k a = true ∧ bar k b = false ∧ ∃ y, x = y + nw k b ∧ ww_Y S n free w met nw bar least most (a + w k) k (D - 2 ^ k) y) ∨
        (b ≠ 6 ∧ ∃ f, least ≤ f ∧ f ≤ most ∧ f ≤ ww_op free (S - a) a ∧ ww_Y S n free w met nw bar least most (a + f) 6 D x)) := by
  constructor
  · rintro ⟨m, h⟩
    cases m with
    | zero => exact absurd h.1 (Nat.ne_of_lt ha)
    | succ m =>
      rcases h.2 with h | h
      · rw [hf] at h; exact absurd h.1 (by decide)
      · rcases h.2 with ⟨k, h1, h2, h3, h4, h5, y, h6, h7⟩ | ⟨h1, f, h2, h3, h4, h5⟩
        · exact Or.inl ⟨k, h1, h2, h3, h4, h5, y, h6, m, h7⟩
        · exact Or.inr ⟨h1, f, h2, h3, h4, m, h5⟩
  · rintro (⟨k, h1, h2, h3, h4, h5, y, h6, m, h7⟩ | ⟨h1, f, h2, h3, h4, m, h5⟩)
    · exact ⟨m + 1, ha, Or.inr ⟨hf, Or.inl ⟨k, h1, h2, h3, h4, h5, y, h6, h7⟩⟩⟩
    · exact ⟨m + 1, ha, Or.inr ⟨hf, Or.inr ⟨h1, f, h2, h3, h4, h5⟩⟩⟩

theorem ww_W_bd (hnw : ∀ k b, 0 ≤ nw k b ∧ nw k b ≤ 100000) (hw : ∀ k, k < n → 1 ≤ w k) : ∀ m a b D x, ww_W S n free w met nw bar least most m a b D x → a ≤ S ∧ 0 ≤ x ∧ x ≤ 100000 * ((S - a : Nat) : Int)
  | 0, a, b, D, x, h => by
    obtain ⟨h1, h2, h3⟩ := h
    omega
  | m + 1, a, b, D, x, h => by
    obtain ⟨ha, h⟩ := h
    rcases h with ⟨_, h⟩ | ⟨_, ⟨k, h1, h2, h3, h4, h5, y, h6, h7⟩ | ⟨h1, f, h2, h3, h4, h5⟩⟩
    · have := ww_W_bd hnw hw m _ _ _ _ h
      omega
    · have := ww_W_bd hnw hw m _ _ _ _ h7
      have := hnw k b
      have := hw k h1
      have := ww_op_le free (S - a) a
      omega
    · have := ww_W_bd hnw hw m _ _ _ _ h5
      have := ww_op_le free (S - a) a
      omega
theorem ww_Y_bd (hnw : ∀ k b, 0 ≤ nw k b ∧ nw k b ≤ 100000) (hw : ∀ k, k < n → 1 ≤ w k) {a b D : Nat} {x : Int} (h : ww_Y S n free w met nw bar least most a b D x) : a ≤ S ∧ 0 ≤ x ∧ x ≤ 100000 * ((S - a : Nat) : Int) := by
  obtain ⟨m, h⟩ := h
  exact ww_W_bd S n free w met nw bar least most hnw hw m _ _ _ _ h
theorem ww_W_rm (hn : n ≤ 6) : ∀ m a b D x, D < 64 → ww_W S n free w met nw bar least most m a b D x → p_sum (fun k => (w k : Int)) D ≤ (ww_rm free (S - a) a : Int)
  | 0, a, b, D, x, _, h => by
    obtain ⟨h1, h2, h3⟩ := h
    subst h2
    rw [p_sum_0]
    omega
  | m + 1, a, b, D, x, hD, h => by
    obtain ⟨ha, h⟩ := h
    rcases h with ⟨hf, h⟩ | ⟨_, ⟨k, h1, h2, h3, h4, h5, y, h6, h7⟩ | ⟨h1, f, h2, h3, h4, h5⟩⟩
    · have := ww_W_rm hn m _ _ _ _ hD h
      have e : S - a = (S - (a + 1)) + 1 := by omega
      rw [e]
      unfold ww_rm
      rw [if_pos hf]
      omega
    · have := ww_W_rm hn m _ _ _ _ (p_s64 k hD) h7
      rw [p_sum_cl _ hD (by omega) h2]
      have h8 := ww_rm_op free (w k) (S - a) a h3
      rw [show S - (a + w k) = S - a - w k by omega] at this
      omega
    · have := ww_W_rm hn m _ _ _ _ hD h5
      have h8 := ww_rm_op free f (S - a) a h4
      rw [show S - (a + f) = S - a - f by omega] at this
      omega
theorem ww_W_lt (hn : n ≤ 6) : ∀ m a b D x, ww_W S n free w met nw bar least most m a b D x → D < 64 → D < 2 ^ n
  | 0, a, b, D, x, h, _ => by
    obtain ⟨h1, h2, h3⟩ := h
    subst h2
    exact Nat.pow_pos (by omega)
  | m + 1, a, b, D, x, h, hD => by
    obtain ⟨ha, h⟩ := h
    rcases h with ⟨hf, h⟩ | ⟨_, ⟨k, h1, h2, h3, h4, h5, y, h6, h7⟩ | ⟨h1, f, h2, h3, h4, h5⟩⟩
    · exact ww_W_lt hn m _ _ _ _ h hD
    · have h8 := ww_W_lt hn m _ _ _ _ h7 (p_s64 k hD)
      exact p_b5 D hD n (by omega) k h1 h2 h8
    · exact ww_W_lt hn m _ _ _ _ h5 hD

def ww_sup (P : Int → Prop) (v : Int) : Prop := (v = -1 ∧ ∀ x, ¬ P x) ∨ (0 ≤ v ∧ P v ∧ ∀ x, P x → x ≤ v)
def ww_lex (P : Int → Int → Prop) (v c : Int) : Prop := (v = -1 ∧ ∀ x y, ¬ P x y) ∨ (0 ≤ v ∧ P v c ∧ ∀ x y, P x y → x < v ∨ (x = v ∧ c ≤ y))
def ww_V (a D b : Nat) (v : Int) : Prop := ww_sup (fun x => ww_Y S n free w met nw bar least most a b D x) v
end
theorem ww_sup_iff {P Q : Int → Prop} (h : ∀ x, P x ↔ Q x) (v : Int) : ww_sup P v ↔ ww_sup Q v := by
  have : P = Q := funext fun x => propext (h x)
  rw [this]
theorem ww_lex_iff {P Q : Int → Int → Prop} (h : ∀ x y, P x y ↔ Q x y) (v c : Int) : ww_lex P v c ↔ ww_lex Q v c := by
  have : P = Q := funext fun x => funext fun y => propext (h x y)
  rw [this]
theorem ww_sup_uniq {P : Int → Prop} {v v' : Int} (h : ww_sup P v) (h' : ww_sup P v') : v = v' := by
  rcases h with ⟨h1, h2⟩ | ⟨h1, h2, h3⟩ <;> rcases h' with ⟨g1, g2⟩ | ⟨g1, g2, g3⟩
  · omega
  · exact absurd g2 (h2 _)
  · exact absurd h2 (g2 _)
  · have := h3 _ g2
    have := g3 _ h2
    omega
