def ww_pc (s : Nat) : Nat := (Nat.testBit s 0).toNat + (Nat.testBit s 1).toNat + (Nat.testBit s 2).toNat + (Nat.testBit s 3).toNat + (Nat.testBit s 4).toNat + (Nat.testBit s 5).toNat
theorem p_xor : ∀ s : Nat, s < 64 → ∀ t : Nat, t < 64 → (p_I s ^^^ p_I t) = p_I ((s ^^^ t : Nat) : Int) ∧ s ^^^ t < 64 := by decide +kernel
theorem p_bc : ∀ s : Nat, s < 64 → f_Integer_bitCount 0 (p_I s) = some (p_I (ww_pc s)) := by decide +kernel
theorem p_shb : ∀ s : Nat, s < 64 → ∀ k : Nat, k < 6 → ((p_I s >>> (p_I k &&& 31)) &&& 1) = p_I ((Nat.testBit s k).toNat : Nat) := by decide +kernel
theorem p_pcle (s : Nat) : ww_pc s ≤ 6 := by
  unfold ww_pc
  have h0 := Bool.toNat_le (Nat.testBit s 0)
  have h1 := Bool.toNat_le (Nat.testBit s 1)
  have h2 := Bool.toNat_le (Nat.testBit s 2)
  have h3 := Bool.toNat_le (Nat.testBit s 3)
  have h4 := Bool.toNat_le (Nat.testBit s 4)
  have h5 := Bool.toNat_le (Nat.testBit s 5)
  omega
theorem t_bc (N : Nat) {s : Nat} (hs : s < 64) : f_Integer_bitCount N (p_I s) = some (p_I (ww_pc s)) := p_bc s hs
theorem r_size (N : Nat) (hN : 30000 ≤ N) {s : Nat} (hs : s < 64) : f_Model_size N (p_I s) = some (p_I (ww_pc s)) := by
  unfold f_Model_size
  obtain ⟨m, hm⟩ : ∃ m, N = m + 7 := ⟨N - 7, by omega⟩
  have st : ∀ k m : Nat, ∀ a : Nat, k < 6 → f_Model_size_cut N (m + 1) 0 (p_I s) (p_I a) (p_I k) = f_Model_size_cut N m 0 (p_I s) (p_I ((a + (Nat.testBit s k).toNat : Nat) : Int)) (p_I ((k + 1 : Nat) : Int)) := by
    intro k m a hk
    rw [f_Model_size_cut_0, if_neg (by rw [p_6, p_Ile] <;> omega), p_shb s hs k hk, p_addN, p_up]
  have e : f_Model_size_cut N (m + 7) 0 (p_I s) 0 0 = some (p_I (ww_pc s)) := by
    rw [show (0 : Int32) = p_I ((0 : Nat) : Int) by decide, st 0 (m + 6) 0 (by omega), st 1 (m + 5) _ (by omega), st 2 (m + 4) _ (by omega), st 3 (m + 3) _ (by omega), st 4 (m + 2) _ (by omega), st 5 (m + 1) _ (by omega), f_Model_size_cut_0, if_pos (by decide)]
    unfold ww_pc
    rw [Nat.zero_add]
  rw [← hm] at e
  exact e
def ww_un (ul : Int) (td : List Nat) (F : Nat) : Bool := td.all (fun t => decide (ul ≤ (ww_pc (F ^^^ t) : Int)))
def ww_mu (n M F : Nat) : Bool := !(ww_any (fun k => Nat.testBit M k && !(Nat.testBit F k)) n 0)
def ww_mE (n M : Nat) (ul : Int) (td : List Nat) (F : Nat) : Bool := ww_mu n M F && ww_un ul td F
theorem p_mu : ∀ n : Nat, n < 7 → ∀ M : Nat, M < 64 → M < 2 ^ n → ∀ F : Nat, F < 64 → (p_df M F = 0 ↔ ww_mu n M F = true) := by decide +kernel
theorem t_unl_cut (N : Nat) {F : Nat} (hF : F < 64) {ul : Int} (hul : 0 ≤ ul ∧ ul ≤ 6) (vt : Nat → Int32) {cnt : Nat} (hcnt : cnt ≤ 16) :
    ∀ (R : List Nat) (m e : Nat), (∀ t, t ∈ R → t < 64) → R.length < m → e + R.length = cnt → ww_en R vt e → f_Planner_isUnlike_cut N 16 vt m 0 (p_I F) (p_I cnt) (p_I ul) (p_I e) = some (ww_un ul R F)
  | [], m + 1, e, _, _, he, _ => by
    have : cnt = e := by simpa using he.symm
    rw [f_Planner_isUnlike_cut_0, if_pos (by rw [p_Ile] <;> omega)]
    rfl
  | t :: R, m + 1, e, ht, hm, he, hen => by
    have hlen : (t :: R).length = R.length + 1 := rfl
    rw [hlen] at hm he
    have h1 : vt e = p_I t := hen 0 t rfl
    have ht1 := ht t (List.mem_cons_self)
    have hx := p_xor F hF t ht1
    have hp := p_pcle (F ^^^ t)
    rw [f_Planner_isUnlike_cut_0, if_neg (by rw [p_Ile] <;> omega), if_neg (p_in (by omega) (by omega)), p_ix e (by omega), h1, hx.1, t_bc N hx.2, p_up]
    simp only [Option.bind]
    have e1 : ww_un ul (t :: R) F = (decide (ul ≤ (ww_pc (F ^^^ t) : Int)) && ww_un ul R F) := rfl
    rw [e1]
    by_cases c : ul ≤ (ww_pc (F ^^^ t) : Int)
    · rw [if_pos (by rw [p_Ile] <;> omega), decide_eq_true c, Bool.true_and]
      exact t_unl_cut N hF hul vt hcnt R m (e + 1) (fun x hx => ht x (List.mem_cons_of_mem _ hx)) (by omega) (by omega) (fun j x hj => by rw [show e + 1 + j = e + (j + 1) by omega]; exact hen (j + 1) x (by simpa using hj))
    · rw [if_neg (by rw [p_Ile] <;> omega), decide_eq_false c, Bool.false_and]
def ww_cd (n M : Nat) (ul : Int) (td : List Nat) (wo co : Nat → Int) (T : Nat → Nat → Nat → Int) (x y : Int) (F : Nat) : Prop := ww_mE n M ul td F = true ∧ 0 ≤ T 0 F 7 ∧ x = p_sum wo F + T 0 F 7 ∧ y = p_sum co F
def ww_cs (n M : Nat) (ul : Int) (td : List Nat) (wo co : Nat → Int) (T : Nat → Nat → Nat → Int) (e : Nat) (x y : Int) : Prop := ∃ F, F < e ∧ ww_cd n M ul td wo co T x y F
def ww_ti (n M : Nat) (ul : Int) (td : List Nat) (wo co : Nat → Int) (T : Nat → Nat → Nat → Int) (e : Nat) (Lt : List Nat) (vt : Nat → Int32) (bw bc : Int64) : Prop :=
  Lt.length ≤ e ∧ ww_en Lt vt 0 ∧ ((Lt = [] ∧ ∀ x y, ¬ ww_cs n M ul td wo co T e x y) ∨ (Lt ≠ [] ∧ ∃ v c, bw = p_J v ∧ bc = p_J c ∧ 0 ≤ v ∧ ww_lex (ww_cs n M ul td wo co T e) v c ∧ ∀ F, F ∈ Lt ↔ (F < e ∧ ww_cd n M ul td wo co T v c F)))
theorem ww_ti_skip {n M : Nat} {ul : Int} {td : List Nat} {wo co : Nat → Int} {T : Nat → Nat → Nat → Int} {e : Nat} {Lt : List Nat} {vt : Nat → Int32} {bw bc : Int64} (h : ww_ti n M ul td wo co T e Lt vt bw bc) (hno : ∀ x y, ¬ ww_cd n M ul td wo co T x y e) : ww_ti n M ul td wo co T (e + 1) Lt vt bw bc := by
  have hcs : ∀ x y, ww_cs n M ul td wo co T e x y ↔ ww_cs n M ul td wo co T (e + 1) x y := by
    intro x y
    constructor
    · rintro ⟨F, h1, h2⟩; exact ⟨F, by omega, h2⟩
    · rintro ⟨F, h1, h2⟩
      by_cases c : F = e
      · subst c; exact absurd h2 (hno x y)
      · exact ⟨F, by omega, h2⟩
  obtain ⟨h1, h2, h3⟩ := h
  refine ⟨by omega, h2, ?_⟩
  rcases h3 with ⟨g1, g2⟩ | ⟨g1, v, c, g2, g3, g4, g5, g6⟩
  · exact Or.inl ⟨g1, fun x y q => g2 x y ((hcs x y).2 q)⟩
  · refine Or.inr ⟨g1, v, c, g2, g3, g4, (ww_lex_iff hcs v c).1 g5, fun F => ?_⟩
    rw [g6 F]
    constructor
    · rintro ⟨q1, q2⟩; exact ⟨by omega, q2⟩
    · rintro ⟨q1, q2⟩
      by_cases cF : F = e
      · subst cF; exact absurd q2 (hno v c)
      · exact ⟨by omega, q2⟩
theorem ww_en_app {K : List Nat} {v : Nat → Int32} (h : ww_en K v 0) (x : Nat) : ww_en (K ++ [x]) (upd v K.length (p_I x)) 0 := by
  intro j y hj
  rw [p_u]
  by_cases cj : j < K.length
  · rw [List.getElem?_append_left cj] at hj
    rw [if_neg (by omega)]
    exact h j y hj
  · rw [List.getElem?_append_right (by omega)] at hj
    by_cases ce : j = K.length
    · rw [ce, Nat.sub_self] at hj
      simp at hj
      rw [if_pos (by omega), hj]
    · rw [List.getElem?_eq_none (by simp; omega)] at hj
      cases hj
theorem t_offer (N : Nat) {S n : Nat} (hS : S ≤ 40) (hn : n ≤ 6) (vms vn : Int32) {T : Nat → Nat → Nat → Int} {v_tval : Nat → Int64} (htb : t_tb S v_tval T) {wo co : Nat → Int} (hwo : ∀ k, 0 ≤ wo k ∧ wo k ≤ 100000) (hco : ∀ k, 0 ≤ co k ∧ co k ≤ 100000) {v_iswo v_isce : Nat → Int64} (hsw : ∀ s, s < 2 ^ n → v_iswo s = p_J (p_sum wo s) ∧ v_isce s = p_J (p_sum co s)) {M : Nat} {ul : Int} {td : List Nat} {e : Nat} (he : e < 2 ^ n) (hmE : ww_mE n M ul td e = true) {Lt : List Nat} {vt : Nat → Int32} {bw bc : Int64} (va vb : Int32) (h : ww_ti n M ul td wo co T e Lt vt bw bc) :
    ∃ Lt' vt' bw' bc', f_Planner_offerSet N 64 64 ((S + 1) * 512) 64 vms vn v_iswo v_isce v_tval (p_I Lt.length) bw bc va vb vt (p_I e) = some (p_I (List.length Lt'), bw', bc', vt') ∧ ww_ti n M ul td wo co T (e + 1) Lt' vt' bw' bc' := by
  have h64 := p_2n n (by omega)
  have hT := (htb 0 e 7 (by omega) (by omega) (by omega)).2
  have s1 := p_sum_nn wo (fun k => (hwo k).1) e
  have s2 := p_sum_le wo 100000 (by omega) (fun k => (hwo k).2) e
  have s3 := p_sum_nn co (fun k => (hco k).1) e
  have s4 := p_sum_le co 100000 (by omega) (fun k => (hco k).2) e
  have hval : f_Table_valueOf N ((S + 1) * 512) v_tval 0 (p_I e) 7 = some (p_J (T 0 e 7)) := t_val N htb hS (a := 0) (l := e) (b := 7) (by omega) (by omega) (by omega)
  unfold f_Planner_offerSet
  rw [hval]
  simp only [Option.bind]
  by_cases c0 : T 0 e 7 = -1
  · rw [if_pos (by rw [lg_cmp_eq, p_Jm1, c0])]
    exact ⟨Lt, vt, bw, bc, rfl, ww_ti_skip h (fun x y q => by have := q.2.1; omega)⟩
  have hcd : ww_cd n M ul td wo co T (p_sum wo e + T 0 e 7) (p_sum co e) e := ⟨hmE, by omega, rfl, rfl⟩
  have hcd2 : ∀ x y, ww_cd n M ul td wo co T x y e → x = p_sum wo e + T 0 e 7 ∧ y = p_sum co e := fun x y q => ⟨q.2.2.1, q.2.2.2⟩
  have hcs : ∀ x y, ww_cs n M ul td wo co T (e + 1) x y ↔ (ww_cs n M ul td wo co T e x y ∨ (x = p_sum wo e + T 0 e 7 ∧ y = p_sum co e)) := by
    intro x y
    constructor
    · rintro ⟨F, h1, h2⟩
      by_cases c : F = e
      · subst c; exact Or.inr (hcd2 x y h2)
      · exact Or.inl ⟨F, by omega, h2⟩
    · rintro (⟨F, h1, h2⟩ | ⟨h1, h2⟩)
      · exact ⟨F, by omega, h2⟩
      · exact ⟨e, by omega, by rw [h1, h2]; exact hcd⟩
  have i1 : ¬ (p_I e < 0 ∨ 64 ≤ e) := p_inx (by omega) (by omega)
  obtain ⟨h1, h2, h3⟩ := h
  have i2 : ¬ (p_I Lt.length < 0 ∨ 64 ≤ Lt.length) := p_inx (by omega) (by omega)
  have i3 : ¬ ((0 : Int32) < 0 ∨ 64 ≤ Int32.toNatClampNeg 0) := by decide
  rw [if_neg (by rw [lg_cmp_eq, p_Jm1, p_Jeq] <;> omega)]
  simp only [p_ix e (show e < 2147483648 by omega), p_ix Lt.length (show Lt.length < 2147483648 by omega), i1, i2, i3, if_false, (hsw e he).1, (hsw e he).2, p_Jadd]
  have reset : (∀ x y, ww_cs n M ul td wo co T e x y → x < p_sum wo e + T 0 e 7 ∨ (x = p_sum wo e + T 0 e 7 ∧ p_sum co e < y)) → ∃ Lt' vt' bw' bc', some ((0 : Int32) + 1, p_J (p_sum wo e + T 0 e 7), p_J (p_sum co e), upd vt (Int32.toNatClampNeg 0) (p_I e)) = some (p_I (List.length Lt'), bw', bc', vt') ∧ ww_ti n M ul td wo co T (e + 1) Lt' vt' bw' bc' := by
    intro hall
    refine ⟨[e], _, p_J (p_sum wo e + T 0 e 7), p_J (p_sum co e), rfl, by simp, ?_, Or.inr ⟨by simp, p_sum wo e + T 0 e 7, p_sum co e, rfl, rfl, by omega, ?_, ?_⟩⟩
    · intro j x hj
      cases j with
      | zero => simp at hj; rw [p_u, if_pos (by decide), hj]
      | succ j => simp at hj
    · refine Or.inr ⟨by omega, ⟨e, by omega, hcd⟩, fun x y q => ?_⟩
      rcases (hcs x y).1 q with q | q
      · have := hall x y q; omega
      · omega
    · intro F
      constructor
      · intro q; simp at q; subst q; exact ⟨by omega, hcd⟩
      · rintro ⟨q1, q2⟩
        by_cases c : F = e
        · simp [c]
        · have := hall _ _ ⟨F, by omega, q2⟩
          omega
  have append : (Lt = [] → ∀ x y, ¬ ww_cs n M ul td wo co T e x y) → (∀ x y, ww_cs n M ul td wo co T e x y → x < p_sum wo e + T 0 e 7 ∨ (x = p_sum wo e + T 0 e 7 ∧ p_sum co e ≤ y)) → (∀ F, F ∈ Lt ↔ (F < e ∧ ww_cd n M ul td wo co T (p_sum wo e + T 0 e 7) (p_sum co e) F)) → ∃ Lt' vt' bw' bc', some (p_I Lt.length + 1, p_J (p_sum wo e + T 0 e 7), p_J (p_sum co e), upd vt Lt.length (p_I e)) = some (p_I (List.length Lt'), bw', bc', vt') ∧ ww_ti n M ul td wo co T (e + 1) Lt' vt' bw' bc' := by
    intro _ hall hmem
    refine ⟨Lt ++ [e], upd vt Lt.length (p_I e), p_J (p_sum wo e + T 0 e 7), p_J (p_sum co e), ?_, by simp; omega, ww_en_app h2 e, Or.inr ⟨by simp, p_sum wo e + T 0 e 7, p_sum co e, rfl, rfl, by omega, ?_, ?_⟩⟩
    · rw [p_up, List.length_append]; rfl
    · refine Or.inr ⟨by omega, ⟨e, by omega, hcd⟩, fun x y q => ?_⟩
      rcases (hcs x y).1 q with q | q
      · exact hall x y q
      · omega
    · intro F
      rw [List.mem_append, hmem F]
      constructor
      · rintro (⟨q1, q2⟩ | q)
        · exact ⟨by omega, q2⟩
        · simp at q; subst q; exact ⟨by omega, hcd⟩
      · rintro ⟨q1, q2⟩
        by_cases c : F = e
        · exact Or.inr (by simp [c])
        · exact Or.inl ⟨by omega, q2⟩
  by_cases cl : Lt.length = 0
  · rw [if_pos (by rw [cl]; decide), if_pos (by rw [cl]; decide)]
    have hnil : Lt = [] := List.length_eq_zero_iff.1 cl
    rcases h3 with ⟨g1, g2⟩ | ⟨g1, -⟩
    · refine append (fun _ => g2) (fun x y q => absurd q (g2 x y)) (fun F => ?_)
      rw [hnil]
      constructor
      · intro q; cases q
      · rintro ⟨q1, q2⟩; exact absurd ⟨F, q1, q2⟩ (g2 _ _)
    · exact absurd hnil g1
  · rw [if_neg (by rw [p_0, p_Ile] <;> omega)]
    have hnn : Lt ≠ [] := fun q => cl (List.length_eq_zero_iff.2 q)
    rcases h3 with ⟨g1, -⟩ | ⟨-, v, c, g2, g3, g4, g5, g6⟩
    · exact absurd g1 hnn
    subst g2; subst g3
    obtain ⟨F0, hF0, hcd0⟩ := ww_lex_get g5 g4
    have t1 := (htb 0 F0 7 (by omega) (by omega) (by omega)).2
    have t2 := p_sum_le wo 100000 (by omega) (fun k => (hwo k).2) F0
    have t3 := p_sum_nn co (fun k => (hco k).1) F0
    have t4 := p_sum_le co 100000 (by omega) (fun k => (hco k).2) F0
    have t5 := hcd0.2.2.1
    have t6 := hcd0.2.2.2
    have hge : ∀ x y, ww_cs n M ul td wo co T e x y → x < v ∨ (x = v ∧ c ≤ y) := fun x y q => (ww_lex_ge g5 q).2
    have keep : (p_sum wo e + T 0 e 7 < v ∨ (p_sum wo e + T 0 e 7 = v ∧ c < p_sum co e)) → ∃ Lt' vt' bw' bc', some (p_I Lt.length, p_J v, p_J c, vt) = some (p_I (List.length Lt'), bw', bc', vt') ∧ ww_ti n M ul td wo co T (e + 1) Lt' vt' bw' bc' := by
      intro hlt
      refine ⟨Lt, vt, _, _, rfl, by omega, h2, Or.inr ⟨hnn, v, c, rfl, rfl, g4, ?_, ?_⟩⟩
      · refine Or.inr ⟨g4, (hcs v c).2 (Or.inl (ww_lex_get g5 g4)), fun x y q => ?_⟩
        rcases (hcs x y).1 q with q | q
        · exact hge x y q
        · omega
      · intro F
        rw [g6 F]
        constructor
        · rintro ⟨q1, q2⟩; exact ⟨by omega, q2⟩
        · rintro ⟨q1, q2⟩
          by_cases cF : F = e
          · subst cF; have := hcd2 _ _ q2; omega
          · exact ⟨by omega, q2⟩
    by_cases c1 : p_sum wo e + T 0 e 7 < v
    · rw [if_pos (by rw [lg_cmp_lt, p_Jlt] <;> omega)]
      exact keep (Or.inl c1)
    rw [if_neg (by rw [lg_cmp_lt, p_Jlt] <;> omega)]
    by_cases c2 : p_sum wo e + T 0 e 7 = v
    · rw [if_pos (by rw [lg_cmp_eq, c2])]
      by_cases c3 : p_sum co e ≤ c
      · rw [if_pos (by rw [lg_cmp_le, p_Jle] <;> omega), if_neg (by rw [p_0, p_Ile] <;> omega), if_neg (by rw [lg_cmp_gt, p_Jlt] <;> omega)]
        by_cases c4 : c ≤ p_sum co e
        · rw [if_pos (by rw [lg_cmp_ge, p_Jle] <;> omega)]
          have e5 : p_sum co e = c := by omega
          refine append (fun q => absurd q hnn) (fun x y q => ?_) (fun F => ?_)
          · have := hge x y q; omega
          · rw [c2, e5]; exact g6 F
        · rw [if_neg (by rw [lg_cmp_ge, p_Jle] <;> omega)]
          refine reset (fun x y q => ?_)
          have := hge x y q
          omega
      · rw [if_neg (by rw [lg_cmp_le, p_Jle] <;> omega)]
        exact keep (Or.inr ⟨c2, by omega⟩)
    · rw [if_neg (by rw [lg_cmp_eq, p_Jeq] <;> omega), if_neg (by rw [p_0, p_Ile] <;> omega), if_pos (by rw [lg_cmp_gt, p_Jlt] <;> omega)]
      refine reset (fun x y q => ?_)
      have := hge x y q
      omega
