def p_sg (b : Nat) : Nat := if b = 6 then 7 else if b = 7 then 6 else b
theorem p_sg_lt {b : Nat} (h : b < 8) : p_sg b < 8 := by unfold p_sg; split <;> (try split) <;> omega
theorem p_sg_6 {b : Nat} (h : b < 6) : p_sg b = b := by unfold p_sg; rw [if_neg (by omega), if_neg (by omega)]
def r_ref (n : Nat) (wo co : Nat → Int) (nw : Nat → Nat → Int) (bar : Nat → Nat → Bool) (v_mwor v_mcen v_mnea : Nat → Int64) (v_mbar : Nat → Int32) : Prop :=
  n ≤ 6 ∧ (∀ k, k < n → v_mwor k = p_J (wo k) ∧ v_mcen k = p_J (co k)) ∧ (∀ b k, b < 6 → k < n → v_mnea (6 * b + k) = p_J (nw k b) ∧ (v_mbar (6 * b + k) = 0 ↔ bar k b = false)) ∧ (∀ k, nw k 6 = 0 ∧ nw k 7 = 0 ∧ bar k 6 = false ∧ bar k 7 = false) ∧ (∀ k, 0 ≤ wo k ∧ wo k ≤ 100000) ∧ (∀ k, 0 ≤ co k ∧ co k ≤ 100000) ∧ (∀ k b, 0 ≤ nw k b ∧ nw k b ≤ 100000)
theorem ww_B_bd {S n : Nat} {free : Nat → Bool} {w : Nat → Nat} {met : Nat → Nat → Bool} {nw : Nat → Nat → Int} {bar : Nat → Nat → Bool} {least most : Nat} {wo co : Nat → Int} {mE : Nat → Bool} (hS : S ≤ 40) (hnw : ∀ k b, 0 ≤ nw k b ∧ nw k b ≤ 100000) (hw : ∀ k, k < n → 1 ≤ w k) (hwo : ∀ k, 0 ≤ wo k ∧ wo k ≤ 100000) (hco : ∀ k, 0 ≤ co k ∧ co k ≤ 100000) {a b U : Nat} {v c : Int} (h : ww_B S n free w met nw bar least most wo co mE a b U v c) : -1 ≤ v ∧ v ≤ 4600000 ∧ (0 ≤ v → 0 ≤ c ∧ c ≤ 600000) := by
  rcases h with ⟨h1, h2⟩ | ⟨h1, h2, h3⟩
  · omega
  · have := ww_C_bd S n free w met nw bar least most wo co mE hnw hw hwo hco h2
    omega
section
variable (N : Nat) (c1 : Int32) (vst vpi vit vle vmo : Int32) (hp : Bool) (c2 c3 : Int32) (c4 c5 : Int64)
theorem r_may {n : Nat} {w : Nat → Nat} {wo co : Nat → Int} {nw : Nat → Nat → Int} {bar : Nat → Nat → Bool} {v_mwor v_mcen v_mnea : Nat → Int64} {v_mwid v_mbar v_mclr v_mmet : Nat → Int32} (hr : r_ref n wo co nw bar v_mwor v_mcen v_mnea v_mbar) (hw : ∀ k, k < n → v_mwid k = p_I (w k) ∧ 1 ≤ w k ∧ w k ≤ 20) {a b U k o : Nat} {mt : Bool} (ha : a < 41) (hb : b < 8) (hU : U < 64) (hk : k < n) (ho : o ≤ 40) (hc : v_mclr a = p_I o) (hm : v_mmet (41 * k + a) = 0 ↔ mt = false) :
    f_Model_mayStand N 6 36 42 246 c1 vst vpi vit vle vmo hp c2 c3 c4 c5 v_mwid v_mbar v_mclr v_mmet (p_I k) (p_I a) (p_I b) (p_I U) = some (!(Nat.testBit U k) && (decide (w k ≤ o) && (mt && !(bar k (p_sg b))))) := by
  obtain ⟨hn, hr1, hr2, hr3, -⟩ := hr
  obtain ⟨w1, w2, w3⟩ := hw k hk
  unfold f_Model_mayStand
  cases e1 : Nat.testBit U k with
  | true =>
    rw [if_neg (fun q => by rw [(p_shr U hU k (by omega)).1 q] at e1; cases e1)]
    rfl
  | false =>
    rw [if_pos ((p_shr U hU k (by omega)).2 e1), if_neg (p_in (by omega) (by omega)), p_ix k (by omega), w1, r_clear N c1 vst vpi vit vle vmo hp c2 c3 c4 c5 v_mclr (by omega) ho (by omega) hc]
    simp only [Option.bind]
    by_cases e2 : w k ≤ o
    · rw [decide_eq_true e2, if_pos rfl, p_m41, if_neg (p_in (by omega) (by omega)), p_ix _ (by omega)]
      cases e3 : mt with
      | false => rw [if_pos (hm.2 e3)]; rfl
      | true =>
        rw [if_neg (fun q => by rw [hm.1 q] at e3; cases e3)]
        by_cases e4 : 6 ≤ b
        · rw [if_pos (by rw [p_6, p_Ile] <;> omega)]
          have : bar k (p_sg b) = false := by
            have := hr3 k
            unfold p_sg
            by_cases e5 : b = 6
            · rw [if_pos e5]; exact this.2.2.2
            · rw [if_neg e5, if_pos (by omega)]; exact this.2.2.1
          rw [this]; rfl
        · rw [if_neg (by rw [p_6, p_Ile] <;> omega), p_m6, if_neg (p_in (by omega) (by omega)), p_ix _ (by omega), p_sg_6 (by omega)]
          have := (hr2 b k (by omega) hk).2
          cases e5 : bar k b with
          | false => rw [if_pos (this.2 e5)]; rfl
          | true => rw [if_neg (fun q => by rw [this.1 q] at e5; cases e5)]; rfl
    · rw [decide_eq_false e2, if_neg (by decide)]; rfl
theorem r_wb {n : Nat} {wo co : Nat → Int} {nw : Nat → Nat → Int} {bar : Nat → Nat → Bool} {v_mwor v_mcen v_mnea : Nat → Int64} {v_mbar : Nat → Int32} (hr : r_ref n wo co nw bar v_mwor v_mcen v_mnea v_mbar) {b k : Nat} (hb : b < 8) (hk : k < n) :
    f_Model_worthBehind N 6 36 c1 vst vpi vit vle vmo hp c2 c3 c4 c5 v_mwor v_mnea (p_I k) (p_I b) = some (p_J (wo k + nw k (p_sg b))) := by
  obtain ⟨hn, hr1, hr2, hr3, -⟩ := hr
  unfold f_Model_worthBehind
  rw [if_neg (p_in (by omega) (by omega)), p_ix k (by omega), (hr1 k hk).1]
  by_cases e4 : 6 ≤ b
  · rw [if_pos (by rw [p_6, p_Ile] <;> omega), p_J0, p_Jadd]
    have : nw k (p_sg b) = 0 := by
      have := hr3 k
      unfold p_sg
      by_cases e5 : b = 6
      · rw [if_pos e5]; exact this.2.1
      · rw [if_neg e5, if_pos (by omega)]; exact this.1
    rw [this]
  · rw [if_neg (by rw [p_6, p_Ile] <;> omega), p_m6, if_neg (p_in (by omega) (by omega)), p_ix _ (by omega), p_sg_6 (by omega), (hr2 b k (by omega) hk).1, p_Jadd]
theorem r_choose (v u : Nat → Int64) {to fm : Nat} (hto : to < 20992) (hfm : fm < 20992) {tw tc fw fc wo co : Int} (h1 : v to = p_J tw) (h2 : u to = p_J tc) (h3 : v fm = p_J fw) (h4 : u fm = p_J fc) (b1 : -1 ≤ tw ∧ tw ≤ 5000000) (b2 : 0 ≤ tc ∧ tc ≤ 5000000) (b3 : -1 ≤ fw ∧ fw ≤ 5000000) (b4 : 0 ≤ fw → 0 ≤ fc ∧ fc ≤ 5000000) (b5 : 0 ≤ wo ∧ wo ≤ 1000000) (b6 : 0 ≤ co ∧ co ≤ 1000000) :
    ∃ v' u', f_Model_choose N 20992 20992 c1 vst vpi vit vle vmo hp c2 c3 c4 c5 v u (p_I to) (p_I fm) (p_J wo) (p_J co) = some (v', u') ∧ (fw < 0 → v' = v ∧ u' = u) ∧ (0 ≤ fw → v' to = p_J (if tw < fw + wo ∨ (fw + wo = tw ∧ fc + co < tc) then fw + wo else tw) ∧ u' to = p_J (if tw < fw + wo ∨ (fw + wo = tw ∧ fc + co < tc) then fc + co else tc)) ∧ (∀ j, j ≠ to → v' j = v j ∧ u' j = u j) := by
  have i1 := p_inx (k := to) (n := 20992) (by omega) (by omega)
  have i2 := p_inx (k := fm) (n := 20992) (by omega) (by omega)
  unfold f_Model_choose
  simp only [p_ix to (show to < 2147483648 by omega), p_ix fm (show fm < 2147483648 by omega), i1, i2, if_false, h1, h2, h3, h4, p_Jadd]
  by_cases e0 : fw < 0
  · rw [if_neg (by rw [lg_cmp_ge, p_J0, p_Jle] <;> omega)]
    exact ⟨v, u, rfl, fun _ => ⟨rfl, rfl⟩, fun q => by omega, fun j _ => ⟨rfl, rfl⟩⟩
  · have b4 := b4 (by omega)
    rw [if_pos (by rw [lg_cmp_ge, p_J0, p_Jle] <;> omega)]
    have up : ∃ v' u', some (vp_updL v to (p_J (fw + wo)), vp_updL u to (p_J (fc + co))) = some (v', u') ∧ (fw < 0 → v' = v ∧ u' = u) ∧ (0 ≤ fw → v' to = p_J (fw + wo) ∧ u' to = p_J (fc + co)) ∧ (∀ j, j ≠ to → v' j = v j ∧ u' j = u j) :=
      ⟨_, _, rfl, fun q => absurd q e0, fun _ => ⟨by rw [p_uL, if_pos rfl], by rw [p_uL, if_pos rfl]⟩, fun j hj => ⟨by rw [p_uL, if_neg hj], by rw [p_uL, if_neg hj]⟩⟩
    have no : ∃ v' u', some (v, u) = some (v', u') ∧ (fw < 0 → v' = v ∧ u' = u) ∧ (0 ≤ fw → v' to = p_J tw ∧ u' to = p_J tc) ∧ (∀ j, j ≠ to → v' j = v j ∧ u' j = u j) :=
      ⟨_, _, rfl, fun q => absurd q e0, fun _ => ⟨h1, h2⟩, fun j hj => ⟨rfl, rfl⟩⟩
    by_cases e1 : tw < fw + wo
    · rw [if_pos (by rw [lg_cmp_gt, p_Jlt] <;> omega)]
      rw [if_pos (Or.inl e1), if_pos (Or.inl e1)]
      exact up
    · rw [if_neg (by rw [lg_cmp_gt, p_Jlt] <;> omega)]
      by_cases e2 : fw + wo = tw
      · rw [if_pos (by rw [lg_cmp_eq, p_Jeq] <;> omega)]
        by_cases e3 : fc + co < tc
        · rw [if_neg (by rw [lg_cmp_ge, p_Jle] <;> omega)]
          rw [if_pos (Or.inr ⟨e2, e3⟩), if_pos (Or.inr ⟨e2, e3⟩)]
          exact up
        · rw [if_pos (by rw [lg_cmp_ge, p_Jle] <;> omega)]
          rw [if_neg (by omega), if_neg (by omega)]
          exact no
      · rw [if_neg (by rw [lg_cmp_eq, p_Jeq] <;> omega)]
        rw [if_neg (by omega), if_neg (by omega)]
        exact no
end
def r_rd (S n : Nat) (v u : Nat → Int64) (Rw Rc : Nat → Nat → Nat → Int) (a : Nat) : Prop := ∀ a' b U, a < a' → a' ≤ S → b < 8 → U < 2 ^ n → v (512 * a' + 64 * b + U) = p_J (Rw a' b U) ∧ u (512 * a' + 64 * b + U) = p_J (Rc a' b U)
def r_Q (n : Nat) (w : Nat → Nat) (o : Nat) (mt : Nat → Bool) (nw : Nat → Nat → Int) (bar : Nat → Nat → Bool) (wo co : Nat → Int) (Rw Rc : Nat → Nat → Nat → Int) (a b U e : Nat) (x y : Int) : Prop :=
  ∃ k, k < e ∧ Nat.testBit U k = false ∧ w k ≤ o ∧ mt k = true ∧ bar k (p_sg b) = false ∧ 0 ≤ Rw (a + w k) k (U ||| 2 ^ k) ∧ x = Rw (a + w k) k (U ||| 2 ^ k) + (wo k + nw k (p_sg b)) ∧ y = Rc (a + w k) k (U ||| 2 ^ k) + co k
def r_Q2 (n : Nat) (w : Nat → Nat) (o : Nat) (mt : Nat → Bool) (nw : Nat → Nat → Int) (bar : Nat → Nat → Bool) (wo co : Nat → Int) (least most : Nat) (Rw Rc : Nat → Nat → Nat → Int) (a b U e : Nat) (x y : Int) : Prop :=
  r_Q n w o mt nw bar wo co Rw Rc a b U n x y ∨ (b ≠ 7 ∧ ∃ f, f < e ∧ least ≤ f ∧ f ≤ most ∧ f ≤ o ∧ 0 ≤ Rw (a + f) 7 U ∧ x = Rw (a + f) 7 U ∧ y = Rc (a + f) 7 U)
