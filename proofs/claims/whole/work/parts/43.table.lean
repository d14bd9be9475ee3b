theorem p_ofNat (n : Nat) : Int32.ofNat n = p_I n := by
  exact Int32.ofInt_eq_ofNat.symm
theorem t_fillJ_cut (N n : Nat) (z : Int64) (hn : n ≤ 30000) : ∀ d m e : Nat, ∀ v : Nat → Int64, e + d = n → d < m →
    ∃ v', f_Arrays_fill_JJV_cut N n m 0 z (p_I e) (p_I n) v = some v' ∧ ∀ k, v' k = if e ≤ k ∧ k < n then z else v k
  | 0, m + 1, e, v, h, _ => by
    refine ⟨v, ?_, ?_⟩
    · rw [f_Arrays_fill_JJV_cut_0, if_pos (by rw [p_Ile] <;> omega)]
    · intro k; rw [if_neg (by omega)]
  | d + 1, m + 1, e, v, h, hm => by
    obtain ⟨v', h1, h2⟩ := t_fillJ_cut N n z hn d m (e + 1) (vp_updL v e z) (by omega) (by omega)
    refine ⟨v', ?_, ?_⟩
    · rw [f_Arrays_fill_JJV_cut_0, if_neg (by rw [p_Ile] <;> omega), if_neg (p_in (by omega) (by omega)), p_ix e (by omega), p_up, h1]
    · intro k
      rw [h2 k, p_uL]
      by_cases c : k = e
      · rw [if_neg (by omega), if_pos c, if_pos (by omega)]
      · rw [if_neg c]
        by_cases c2 : e + 1 ≤ k ∧ k < n
        · rw [if_pos c2, if_pos (by omega)]
        · rw [if_neg c2, if_neg (by omega)]
theorem t_fillJ (N n : Nat) (z : Int64) (hn : n ≤ 25000) (hN : 30000 ≤ N) (v : Nat → Int64) :
    ∃ v', f_Arrays_fill_JJV N n v z = some v' ∧ ∀ k, v' k = if k < n then z else v k := by
  obtain ⟨v', h1, h2⟩ := t_fillJ_cut N n z (by omega) n N 0 v (by omega) (by omega)
  refine ⟨v', ?_, fun k => by rw [h2 k]; simp⟩
  unfold f_Arrays_fill_JJV
  rw [p_ofNat]
  exact h1
theorem t_fillI_cut (N n : Nat) (z : Int32) (hn : n ≤ 30000) : ∀ d m e : Nat, ∀ v : Nat → Int32, e + d = n → d < m →
    ∃ v', f_Arrays_fill_IIV_cut N n m 0 z (p_I e) (p_I n) v = some v' ∧ ∀ k, v' k = if e ≤ k ∧ k < n then z else v k
  | 0, m + 1, e, v, h, _ => by
    refine ⟨v, ?_, ?_⟩
    · rw [f_Arrays_fill_IIV_cut_0, if_pos (by rw [p_Ile] <;> omega)]
    · intro k; rw [if_neg (by omega)]
  | d + 1, m + 1, e, v, h, hm => by
    obtain ⟨v', h1, h2⟩ := t_fillI_cut N n z hn d m (e + 1) (upd v e z) (by omega) (by omega)
    refine ⟨v', ?_, ?_⟩
    · rw [f_Arrays_fill_IIV_cut_0, if_neg (by rw [p_Ile] <;> omega), if_neg (p_in (by omega) (by omega)), p_ix e (by omega), p_up, h1]
    · intro k
      rw [h2 k, p_u]
      by_cases c : k = e
      · rw [if_neg (by omega), if_pos c, if_pos (by omega)]
      · rw [if_neg c]
        by_cases c2 : e + 1 ≤ k ∧ k < n
        · rw [if_pos c2, if_pos (by omega)]
        · rw [if_neg c2, if_neg (by omega)]
theorem t_fillI (N n : Nat) (z : Int32) (hn : n ≤ 25000) (hN : 30000 ≤ N) (v : Nat → Int32) :
    ∃ v', f_Arrays_fill_IIV N n v z = some v' ∧ ∀ k, v' k = if k < n then z else v k := by
  obtain ⟨v', h1, h2⟩ := t_fillI_cut N n z (by omega) n N 0 v (by omega) (by omega)
  refine ⟨v', ?_, fun k => by rw [h2 k]; simp⟩
  unfold f_Arrays_fill_IIV
  rw [p_ofNat]
  exact h1

def t_tb (S : Nat) (v : Nat → Int64) (T : Nat → Nat → Nat → Int) : Prop := ∀ a l b : Nat, a ≤ S → l < 64 → b < 8 → v ((a * 64 + l) * 8 + b) = p_J (T a l b) ∧ -1 ≤ T a l b ∧ T a l b ≤ 5000000
def t_row (T : Nat → Nat → Nat → Int) (a l : Nat) (g : Nat → Int) : Nat → Nat → Nat → Int := fun a' l' b' => if a' = a ∧ l' = l then g b' else T a' l' b'
theorem t_row_on (T : Nat → Nat → Nat → Int) (a l : Nat) (g : Nat → Int) (b : Nat) : t_row T a l g a l b = g b := if_pos ⟨rfl, rfl⟩
theorem t_row_off (T : Nat → Nat → Nat → Int) {a l a' : Nat} (g : Nat → Int) (l' b : Nat) (h : a' ≠ a) : t_row T a l g a' l' b = T a' l' b := if_neg (fun h' => h h'.1)
theorem t_row_off2 (T : Nat → Nat → Nat → Int) {a l l' : Nat} (g : Nat → Int) (a' b : Nat) (h : l' ≠ l) : t_row T a l g a' l' b = T a' l' b := if_neg (fun h' => h h'.2)
theorem t_tb_self {S : Nat} {v : Nat → Int64} {T : Nat → Nat → Nat → Int} (a l : Nat) (h : t_tb S v T) : t_tb S v (t_row T a l (T a l)) := by
  intro a' l' b' h1 h2 h3
  unfold t_row
  by_cases c : a' = a ∧ l' = l
  · rw [if_pos c, ← c.1, ← c.2]; exact h _ _ _ h1 h2 h3
  · rw [if_neg c]; exact h _ _ _ h1 h2 h3
theorem t_tb_congr {S : Nat} {v : Nat → Int64} {T : Nat → Nat → Nat → Int} {a l : Nat} {g g' : Nat → Int} (hg : ∀ b, b < 8 → g b = g' b) (h : t_tb S v (t_row T a l g)) : t_tb S v (t_row T a l g') := by
  intro a' l' b' h1 h2 h3
  have := h a' l' b' h1 h2 h3
  unfold t_row at this ⊢
  by_cases c : a' = a ∧ l' = l
  · rw [if_pos c] at this ⊢; rw [← hg b' h3]; exact this
  · rw [if_neg c] at this ⊢; exact this
theorem t_tb_upd {S : Nat} {v : Nat → Int64} {T : Nat → Nat → Nat → Int} {a l b : Nat} {g : Nat → Int} (hl : l < 64) (hb : b < 8) {z : Int} (hz : -1 ≤ z) (hz2 : z ≤ 5000000) (h : t_tb S v (t_row T a l g)) :
    t_tb S (vp_updL v ((a * 64 + l) * 8 + b) (p_J z)) (t_row T a l (fun b' => if b' = b then z else g b')) := by
  intro a' l' b' h1 h2 h3
  have := h a' l' b' h1 h2 h3
  rw [p_uL]
  unfold t_row at this ⊢
  by_cases c : a' = a ∧ l' = l
  · rw [if_pos c] at this ⊢
    show (if (a' * 64 + l') * 8 + b' = (a * 64 + l) * 8 + b then p_J z else v ((a' * 64 + l') * 8 + b')) = p_J (if b' = b then z else g b') ∧ -1 ≤ (if b' = b then z else g b') ∧ (if b' = b then z else g b') ≤ 5000000
    by_cases cb : b' = b
    · rw [if_pos (by rw [c.1, c.2, cb]), if_pos cb]
      exact ⟨rfl, hz, hz2⟩
    · rw [if_neg (by rw [c.1, c.2]; omega), if_neg cb]
      exact this
  · rw [if_neg c] at this ⊢
    rw [if_neg (by omega)]
    exact this
theorem t_val (N : Nat) {S : Nat} {v : Nat → Int64} {T : Nat → Nat → Nat → Int} (h : t_tb S v T) (hS : S ≤ 40) {a l b : Nat} (ha : a ≤ S) (hl : l < 64) (hb : b < 8) :
    f_Table_valueOf N ((S + 1) * 512) v (p_I a) (p_I l) (p_I b) = some (p_J (T a l b)) := by
  unfold f_Table_valueOf
  rw [p_cell, if_neg (p_in (by omega) (by omega)), p_ix _ (by omega), (h a l b ha hl hb).1]

theorem t_bwf_cut (N S : Nat) (vl vm : Int32) (vt : Nat → Int32) {v : Nat → Int64} {T : Nat → Nat → Nat → Int} (h : t_tb S v T) (hS : S ≤ 40) {a l lon : Nat} (hl : l < 64) (hlon : a + lon ≤ S) :
    ∀ d m f : Nat, ∀ best : Int, lon + 1 - f = d → d < m → f ≤ 41 → -1 ≤ best → best ≤ 5000000 →
    ∃ r : Int, f_Table_bestWithFiller_cut N ((S + 1) * 512) S vl vm v vt m 0 (p_I a) (p_I l) (p_J best) (p_I lon) (p_I (((((a + f) * 64 + l) * 8 + 6 : Nat)) : Int)) (p_I f) = some (p_J r) ∧ best ≤ r ∧ (∀ g, f ≤ g → g ≤ lon → T (a + g) l 6 ≤ r) ∧ (r = best ∨ ∃ g, f ≤ g ∧ g ≤ lon ∧ T (a + g) l 6 = r) ∧ r ≤ 5000000
  | 0, m + 1, f, best, hd, _, hf, hb1, hb2 => by
    refine ⟨best, ?_, by omega, fun g h1 h2 => by omega, Or.inl rfl, hb2⟩
    rw [f_Table_bestWithFiller_cut_0, if_pos (by rw [p_Ilt] <;> omega)]
  | d + 1, m + 1, f, best, hd, hm, hf, hb1, hb2 => by
    obtain ⟨e1, e2, e3⟩ := h (a + f) l 6 (by omega) hl (by omega)
    have e4 : p_I (((((a + f) * 64 + l) * 8 + 6 : Nat)) : Int) + 512 = p_I (((((a + (f + 1)) * 64 + l) * 8 + 6 : Nat)) : Int) := by
      rw [p_512, p_Iadd]; congr 1; omega
    rw [f_Table_bestWithFiller_cut_0, if_neg (by rw [p_Ilt] <;> omega), if_neg (p_in (by omega) (by omega)), if_neg (p_in (by omega) (by omega)), p_ix _ (by omega), e1, e4, p_up]
    by_cases c : T (a + f) l 6 ≤ best
    · rw [if_pos (by rw [lg_cmp_le, p_Jle] <;> omega)]
      obtain ⟨r, h1, h2, h3, h4, h5⟩ := t_bwf_cut N S vl vm vt h hS hl hlon d m (f + 1) best (by omega) (by omega) (by omega) hb1 hb2
      refine ⟨r, h1, h2, ?_, ?_, h5⟩
      · intro g g1 g2
        by_cases c2 : g = f
        · subst c2; omega
        · exact h3 g (by omega) g2
      · rcases h4 with h4 | ⟨g, g1, g2, g3⟩
        · exact Or.inl h4
        · exact Or.inr ⟨g, by omega, g2, g3⟩
    · rw [if_neg (by rw [lg_cmp_le, p_Jle] <;> omega)]
      obtain ⟨r, h1, h2, h3, h4, h5⟩ := t_bwf_cut N S vl vm vt h hS hl hlon d m (f + 1) (T (a + f) l 6) (by omega) (by omega) (by omega) e2 e3
      refine ⟨r, h1, by omega, ?_, ?_, h5⟩
      · intro g g1 g2
        by_cases c2 : g = f
        · subst c2; omega
        · exact h3 g (by omega) g2
      · rcases h4 with h4 | ⟨g, g1, g2, g3⟩
        · exact Or.inr ⟨f, Nat.le_refl _, by omega, h4.symm⟩
        · exact Or.inr ⟨g, by omega, g2, g3⟩
theorem t_bwf (N S : Nat) (hN : 30000 ≤ N) (vt : Nat → Int32) (vm : Int32) {v : Nat → Int64} {T : Nat → Nat → Nat → Int} (h : t_tb S v T) (hS : S ≤ 40) {a l lon least : Nat} (ha : a < S) (hl : l < 64) (hlon : a + lon ≤ S) (hle : least ≤ 40) (hvt : vt a = p_I lon) :
    ∃ r : Int, f_Table_bestWithFiller N ((S + 1) * 512) S (p_I least) vm v vt (p_I a) (p_I l) = some (p_J r) ∧ -1 ≤ r ∧ (∀ g, least ≤ g → g ≤ lon → T (a + g) l 6 ≤ r) ∧ (r = -1 ∨ ∃ g, least ≤ g ∧ g ≤ lon ∧ T (a + g) l 6 = r) ∧ r ≤ 5000000 := by
  obtain ⟨r, h1, h2, h3, h4, h5⟩ := t_bwf_cut N S (p_I least) vm vt h hS hl hlon (lon + 1 - least) N least (-1) rfl (by omega) (by omega) (by omega) (by omega)
  refine ⟨r, ?_, h2, h3, h4, h5⟩
  unfold f_Table_bestWithFiller f_Table_cell
  rw [if_neg (p_in ha (by omega)), p_ix a (by omega), hvt]
  simp only [Option.bind]
  rw [p_addN, p_6, show ((p_I ((a + least : Nat) : Int) * 64 + p_I l) * 8 + p_I 6) = p_I (((((a + least) * 64 + l) * 8 + 6 : Nat)) : Int) from p_cell (a + least) l 6]
  exact h1

def t_cls (n : Nat) (nw : Nat → Nat → Int) (bar : Nat → Nat → Bool) (v_ibar : Nat → Int32) (v_inea : Nat → Int64) : Prop :=
  n ≤ 6 ∧ (∀ k b, 0 ≤ nw k b ∧ nw k b ≤ 100000) ∧ (∀ k, k < 8 → ∃ s : Nat, s < 64 ∧ v_ibar k = p_I s ∧ ∀ b, b < 8 → Nat.testBit s b = bar k b) ∧ (∀ k b, k < 8 → b < 8 → v_inea (k * 8 + b) = p_J (nw k b))
def t_G (nw : Nat → Nat → Int) (bar : Nat → Nat → Bool) (k : Nat) (y : Int) (g : Nat → Int) (b : Nat) : Int := if bar k b = false ∧ g b < y + nw k b then y + nw k b else g b
theorem t_off_cut (N S : Nat) (vms : Int32) (n : Nat) (nw : Nat → Nat → Int) (bar : Nat → Nat → Bool) (v_ibar : Nat → Int32) (v_inea : Nat → Int64) (hc : t_cls n nw bar v_ibar v_inea) (T : Nat → Nat → Nat → Int) (hS : S ≤ 40) {a l k : Nat} (ha : a ≤ S) (hl : l < 64) (hk : k < 6) {y : Int} (hy : 0 ≤ y) (hy2 : y ≤ 4900000) (g : Nat → Int) {s : Nat} (hs : s < 64) (hsb : ∀ b, b < 8 → Nat.testBit s b = bar k b) :
    ∀ d m e : Nat, ∀ v : Nat → Int64, e + d = 8 → d < m → t_tb S v (t_row T a l (fun b => if b < e then t_G nw bar k y g b else g b)) →
    ∃ v', f_Table_offerItem_cut N 8 64 ((S + 1) * 512) vms (p_I n) v_ibar v_inea m 0 (p_I (((a * 64 + l) * 8 : Nat) : Int)) (p_I k) (p_J y) (p_I s) (p_I e) v = some v' ∧ t_tb S v' (t_row T a l (t_G nw bar k y g))
  | 0, m + 1, e, v, h, _, hv => by
    refine ⟨v, ?_, ?_⟩
    · rw [f_Table_offerItem_cut_0, if_pos (by rw [p_8, p_Ile] <;> omega)]
    · exact t_tb_congr (fun b hb => if_pos (by omega)) hv
  | d + 1, m + 1, e, v, h, hm, hv => by
    have hc' := hc
    obtain ⟨hn, hnw, -, hne⟩ := hc'
    obtain ⟨e1, e2, e3⟩ := hv a l e ha hl (by omega)
    rw [t_row_on, if_neg (by omega)] at e1 e2 e3
    have e4 := hnw k e
    rw [f_Table_offerItem_cut_0, if_neg (by rw [p_8, p_Ile] <;> omega), p_pair, if_neg (p_in (by omega) (by omega)), p_addN, if_neg (p_in (by omega) (by omega)), if_neg (p_in (by omega) (by omega)), p_ix _ (by omega), p_ix _ (by omega), e1, hne k e (by omega) (by omega), p_Jadd, p_up, t_has N hs (by omega), hsb e (by omega)]
    by_cases c : y + nw k e ≤ g e
    · rw [if_pos (by rw [lg_cmp_le, p_Jle] <;> omega)]
      refine t_off_cut N S vms n nw bar v_ibar v_inea hc T hS ha hl hk hy hy2 g hs hsb d m (e + 1) v (by omega) (by omega) (t_tb_congr ?_ hv)
      intro b hb
      by_cases cb : b = e
      · subst cb
        rw [if_neg (by omega), if_pos (by omega)]
        unfold t_G
        rw [if_neg (by omega)]
      · by_cases cc : b < e
        · rw [if_pos cc, if_pos (by omega)]
        · rw [if_neg cc, if_neg (by omega)]
    · rw [if_neg (by rw [lg_cmp_le, p_Jle] <;> omega)]
      simp only [Option.bind]
      split
      · rename_i c2
        refine t_off_cut N S vms n nw bar v_ibar v_inea hc T hS ha hl hk hy hy2 g hs hsb d m (e + 1) v (by omega) (by omega) (t_tb_congr ?_ hv)
        intro b hb
        by_cases cb : b = e
        · subst cb
          rw [if_neg (by omega), if_pos (by omega)]
          unfold t_G
          rw [if_neg (by rw [c2]; simp)]
        · by_cases cc : b < e
          · rw [if_pos cc, if_pos (by omega)]
          · rw [if_neg cc, if_neg (by omega)]
      · rename_i c2
        refine t_off_cut N S vms n nw bar v_ibar v_inea hc T hS ha hl hk hy hy2 g hs hsb d m (e + 1) _ (by omega) (by omega) (t_tb_congr ?_ (t_tb_upd (b := e) hl (by omega) (z := y + nw k e) (by omega) (by omega) hv))
        intro b hb
        by_cases cb : b = e
        · subst cb
          rw [if_pos rfl, if_pos (by omega)]
          unfold t_G
          rw [if_pos ⟨by simpa using c2, by omega⟩]
        · rw [if_neg cb]
          by_cases cc : b < e
          · rw [if_pos cc, if_pos (by omega)]
          · rw [if_neg cc, if_neg (by omega)]
theorem t_off (N S : Nat) (hN : 30000 ≤ N) (vms : Int32) (n : Nat) (nw : Nat → Nat → Int) (bar : Nat → Nat → Bool) (v_ibar : Nat → Int32) (v_inea : Nat → Int64) (hc : t_cls n nw bar v_ibar v_inea) (T : Nat → Nat → Nat → Int) (hS : S ≤ 40) {a l k : Nat} (ha : a ≤ S) (hl : l < 64) (hk : k < 6) {y : Int} (hy : 0 ≤ y) (hy2 : y ≤ 4900000) (g : Nat → Int) (v : Nat → Int64) (hv : t_tb S v (t_row T a l g)) :
    ∃ v', f_Table_offerItem N 8 64 ((S + 1) * 512) vms (p_I n) v_ibar v_inea v (p_I (((a * 64 + l) * 8 : Nat) : Int)) (p_I k) (p_J y) = some v' ∧ t_tb S v' (t_row T a l (t_G nw bar k y g)) := by
  obtain ⟨s, h1, h2, h3⟩ := hc.2.2.1 k (by omega)
  unfold f_Table_offerItem
  rw [p_Jm1, if_neg (by rw [lg_cmp_eq, p_Jeq] <;> omega), if_neg (p_in (by omega) (by omega)), p_ix k (by omega), h2]
  exact t_off_cut N S vms n nw bar v_ibar v_inea hc T hS ha hl hk hy hy2 g h1 h3 8 N 0 v (by omega) (by omega) (t_tb_congr (fun b _ => (if_neg (by omega)).symm) hv)
theorem t_off0 (N S : Nat) (vms : Int32) (n : Nat) (v_ibar : Nat → Int32) (v_inea : Nat → Int64) (v : Nat → Int64) (x1 x2 : Int32) : f_Table_offerItem N 8 64 ((S + 1) * 512) vms (p_I n) v_ibar v_inea v x1 x2 (p_J (-1)) = some v := by
  unfold f_Table_offerItem
  rw [p_Jm1, if_pos (by rw [lg_cmp_eq])]
