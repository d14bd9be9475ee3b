theorem ww_addT_le (ts : List (Nat × Nat)) (p : Int × Nat × Nat) : (ww_addT ts p).length ≤ ts.length + 1 := by
  unfold ww_addT
  split
  · split
    · rw [List.length_set]; omega
    · simp
  · simp
theorem ww_fold_le : ∀ (L : List (Int × Nat × Nat)) (ts : List (Nat × Nat)), (L.foldl ww_addT ts).length ≤ ts.length + L.length
  | [], ts => by simp
  | p :: L, ts => by
    rw [List.foldl_cons]
    have h1 := ww_fold_le L (ww_addT ts p)
    have h2 := ww_addT_le ts p
    have h3 : (p :: L).length = L.length + 1 := rfl
    omega
theorem ww_tops_le (K : List (Int × Nat × Nat)) : (ww_tops K).length ≤ K.length := by
  have := ww_fold_le K []
  unfold ww_tops
  simpa using this
def ww_sz (L : List (Int × Nat × Nat)) : Prop := ∀ q, q ∈ L → q.2.1 ≤ 40 ∧ q.2.2 ≤ 40
theorem ww_path_sz {S n : Nat} (hS : S ≤ 40) {free : Nat → Bool} {w : Nat → Nat} {met : Nat → Nat → Bool} {nw : Nat → Nat → Int} {bar : Nat → Nat → Bool} {least most : Nat} {wo co : Nat → Int} {Bw Bc : Nat → Nat → Nat → Int} (hw : ∀ k, w k ≤ 20) (hmo : most ≤ 40) : ∀ m a b U L U', ww_path S n free w met nw bar least most wo co Bw Bc m a b U L U' → ww_sz L
  | 0, a, b, U, L, U', h => by
    obtain ⟨rfl, rfl, rfl⟩ := h
    intro q hq; cases hq
  | m + 1, a, b, U, L, U', h => by
    obtain ⟨ha, h⟩ := h
    rcases h with ⟨_, h⟩ | ⟨_, p, a1, b1, U1, L1, hs, rfl, h⟩
    · exact ww_path_sz hS hw hmo m _ _ _ _ _ h
    · have ih := ww_path_sz hS hw hmo m _ _ _ _ _ h
      have hp : p.2.1 ≤ 40 ∧ p.2.2 ≤ 40 := by
        rcases hs with ⟨k, k1, k2, k3, k4, k5, k6, k7⟩ | ⟨hno, hb6, f, f1, f2, f3, f4, f5, f6, f7, f8⟩
        · subst k4
          have := hw k
          exact ⟨by simp; omega, by simp; omega⟩
        · subst f5
          exact ⟨by simp; omega, by simp; omega⟩
      intro q hq
      rcases List.mem_cons.1 hq with e | e
      · subst e; exact hp
      · exact ih q e
def z_pl (S n : Nat) (free : Nat → Bool) (w : Nat → Nat) (met : Nat → Nat → Bool) (nw : Nat → Nat → Int) (bar : Nat → Nat → Bool) (least most : Nat) (hpl : Bool) (tc : Int32) (v_told : Nat → Int32) (v_tval : Nat → Int64) (v_tfit v_tlon : Nat → Int32) (pcnt ptc pis : Int32) (pww pwc : Int64) (ppi ppb pps ptb pts pbo : Nat → Int32) (mtold mpc : Int32) (mpw mpcn : Int64) (v_mtol mpi mpa mps : Nat → Int32) : Prop :=
  (hpl = false ∧ tc = 0) ∨ (hpl = true ∧ ∃ (td : List Nat) (L : List (Int × Nat × Nat)) (U : Nat) (T : Nat → Nat → Nat → Int), 1 ≤ td.length ∧ td.length ≤ 16 ∧ tc = p_I td.length ∧ mtold = p_I td.length ∧ (∀ t, t ∈ td → t < 64) ∧ ww_en td v_told 0 ∧ ww_en td v_mtol 0 ∧ t_tb S v_tval T ∧ (∀ a l b, a ≤ S → l < 64 → b < 8 → ww_V S n free w met nw bar least most a l b (T a l b)) ∧ (∀ a, a < S → free a = false → ww_ff S n free w met most v_tfit v_tlon a) ∧ ww_ps L U pcnt ptc pis ppi ppb pps ptb pts pbo ∧ ww_uq 0 L ∧ ww_sz L ∧ L.length ≤ 40 ∧ mpc = p_I L.length ∧ ww_pl L mpi mpa mps ∧ pww = mpw ∧ pwc = mpcn)
section
variable {S n : Nat} {free : Nat → Bool} {w : Nat → Nat} {met : Nat → Nat → Bool} {nw : Nat → Nat → Int} {bar : Nat → Nat → Bool} {least most : Nat} {hpl : Bool} {tc : Int32} {v_told : Nat → Int32} {v_tval : Nat → Int64} {v_tfit v_tlon : Nat → Int32} {pcnt ptc pis : Int32} {pww pwc : Int64} {ppi ppb pps ptb pts pbo : Nat → Int32} {mtold mpc : Int32} {mpw mpcn : Int64} {v_mtol mpi mpa mps : Nat → Int32}
theorem z_tc (h : z_pl S n free w met nw bar least most hpl tc v_told v_tval v_tfit v_tlon pcnt ptc pis pww pwc ppi ppb pps ptb pts pbo mtold mpc mpw mpcn v_mtol mpi mpa mps) : (tc = 0 ↔ hpl = false) := by
  rcases h with ⟨h1, h2⟩ | ⟨h1, td, L, U, T, h2, h3, h4, -⟩
  · exact ⟨fun _ => h1, fun _ => h2⟩
  · constructor
    · intro q
      rw [h4, p_0, p_Ieq] at q <;> omega
    · intro q; rw [h1] at q; cases q
theorem z_at (N : Nat) (hN : 30000 ≤ N) (hn : n ≤ 6) (c1 vst vpi vle vmo vms : Int32) (tn : Int32) (bw bc : Int64) (va vb : Int32) (h : z_pl S n free w met nw bar least most hpl tc v_told v_tval v_tfit v_tlon pcnt ptc pis pww pwc ppi ppb pps ptb pts pbo mtold mpc mpw mpcn v_mtol mpi mpa mps) (p1 : Int32) :
    ∃ e r r' c, f_RoomFills_at N 6 tc vms (p_I n) pcnt ptc pis pww pwc pbo tn bw bc va vb p1 = some (e, r) ∧ f_Model_at N 41 41 c1 vst vpi (p_I n) vle vmo hpl mtold mpc mpw mpcn mpi mpa p1 = some (r', c) ∧ ((e = 0 ∧ c = 0 ∧ r = r') ∨ (e = 1 ∧ c = 1) ∨ (e = 3 ∧ c = 2)) := by
  obtain ⟨x, rfl, g1, g2⟩ := p_al p1
  have ht := z_tc h
  unfold f_RoomFills_at f_RoomFills_demandPlan f_Model_at f_Model_none
  cases hh : hpl with
  | false =>
    rw [if_pos (ht.2 hh)]
    exact ⟨1, 0, 0, 1, rfl, rfl, Or.inr (Or.inl ⟨rfl, rfl⟩)⟩
  | true =>
    rw [if_neg (fun q => by rw [ht.1 q] at hh; cases hh)]
    simp only [Option.bind, if_true]
    rw [if_pos (show (0 : Int32) ≤ 0 by decide)]
    simp only []
    rw [if_neg (show ¬ (false = true) by decide)]
    have t1 : p_I x < 0 ↔ x < 0 := by rw [p_0, p_Ilt] <;> omega
    have t2 : p_I x < p_I n ↔ ¬ ((n : Int) ≤ x) := by rw [p_Ilt] <;> omega
    have t2' : p_I n ≤ p_I x ↔ ((n : Int) ≤ x) := by rw [p_Ile] <;> omega
    unfold f_RoomFills_demandItem f_Model_isItem
    have bad := fun (x1 : Int32) => r_at_bad N hN vst vpi (p_I n) vle vmo mtold mpc mpw mpcn true mpi mpa x1
    by_cases e1 : x < 0
    · exact ⟨3, 0, 0, 2, by simp [t1, e1], by simp [t1, e1, bad], Or.inr (Or.inr ⟨rfl, rfl⟩)⟩
    by_cases e2 : (n : Int) ≤ x
    · exact ⟨3, 0, 0, 2, by simp [t1, t2, e1, e2], by simp [t1, t2', e1, e2, bad], Or.inr (Or.inr ⟨rfl, rfl⟩)⟩
    rcases h with ⟨h1, h2⟩ | ⟨-, td, L, U, T, h2, h3, h4, h5, h6, h7, h8, h9, h10, h11, h12, h13, h14, h15, h16, h17, h18⟩
    · rw [h1] at hh; cases hh
    obtain ⟨k, hk⟩ : ∃ k : Nat, x = (k : Int) := ⟨x.toNat, by omega⟩
    subst hk
    have q1 := h12.2.2.2.2.2 k (by omega)
    have q2 := r_at_cut' N vst vpi (p_I n) vle vmo mtold mpw mpcn true (vi := mpi) (va := mpa) (k := k) (by omega) (n := L.length) h15 L N 0 (ww_uq_1 L 0 h13) (fun j p hj => by rw [Nat.zero_add]; exact ⟨(h17 j p hj).1, (h17 j p hj).2.1⟩) (by omega) (by omega)
    have q2' : f_Model_at_cut N 41 41 vst vpi (p_I n) vle vmo true mtold (p_I L.length) mpw mpcn mpi mpa N 0 (p_I k) 0 0 = some (p_I (ww_fm L k), 0) := q2
    rw [ww_bo_fm L 0 (by omega) h13 k (by omega)] at q1
    have j1 : ¬ (6 ≤ k) := by omega
    refine ⟨0, p_I (ww_fm L k), p_I (ww_fm L k), 0, ?_, ?_, Or.inl ⟨rfl, rfl, rfl⟩⟩
    · simp only [t1, t2, e1, e2, if_false, if_true, not_false_eq_true, p_ix k (show k < 2147483648 by omega), j1, or_self, q1]
    · simp only [t1, t2', e1, e2, if_false, if_true, h16, q2']
theorem z_planq (N : Nat) (c1 vst vpi vit vle vmo : Int32) (tn : Int32) (bw bc : Int64) (va vb : Int32) (h : z_pl S n free w met nw bar least most hpl tc v_told v_tval v_tfit v_tlon pcnt ptc pis pww pwc ppi ppb pps ptb pts pbo mtold mpc mpw mpcn v_mtol mpi mpa mps) (p1 p2 : Int32) :
    ∃ e r r' c, f_RoomFills_plan N 40 40 40 tc pcnt ptc pis pww pwc ppi ppb pps tn bw bc va vb p1 p2 = some (e, r) ∧ f_Model_plan N 41 41 41 c1 vst vpi vit vle vmo hpl mtold mpc mpw mpcn mpi mpa mps p1 p2 = some (r', c) ∧ ((e = 0 ∧ c = 0 ∧ r = r') ∨ (e = 1 ∧ c = 1) ∨ (e = 3 ∧ c = 2) ∨ (e = 2 ∧ c = 3)) := by
  obtain ⟨x, rfl, g1, g2⟩ := p_al p1
  obtain ⟨y, rfl, g3, g4⟩ := p_al p2
  have ht := z_tc h
  unfold f_RoomFills_plan f_RoomFills_demandPlan f_Model_plan f_Model_none
  cases hh : hpl with
  | false =>
    rw [if_pos (ht.2 hh)]
    exact ⟨1, 0, 0, 1, rfl, rfl, Or.inr (Or.inl ⟨rfl, rfl⟩)⟩
  | true =>
    rw [if_neg (fun q => by rw [ht.1 q] at hh; cases hh)]
    rcases h with ⟨h1, h2⟩ | ⟨-, td, L, U, T, h2, h3, h4, h5, h6, h7, h8, h9, h10, h11, h12, h13, h14, h15, h16, h17, h18⟩
    · rw [h1] at hh; cases hh
    obtain ⟨s1, s2, s3, s4, s5, s6⟩ := h12
    subst s1; subst h16
    have t1 : p_I x < 0 ↔ x < 0 := by rw [p_0, p_Ilt] <;> omega
    have t2 : p_I x < p_I L.length ↔ ¬ ((L.length : Int) ≤ x) := by rw [p_Ilt] <;> omega
    have t3 : p_I y < 0 ↔ y < 0 := by rw [p_0, p_Ilt] <;> omega
    have t4 : p_I y ≤ (2 : Int32) ↔ ¬ (2 < y) := by rw [show (2 : Int32) = p_I 2 by decide, p_Ile] <;> omega
    have t5 : p_I y = 0 ↔ y = 0 := by rw [p_0, p_Ieq] <;> omega
    have t6 : p_I y = (1 : Int32) ↔ y = 1 := by rw [p_1, p_Ieq] <;> omega
    have i1 : f_Model_isIn N (p_I y).toInt64 0 2 = some (decide (0 ≤ y) && decide (y ≤ 2)) := by
      rw [p_tol g3 g4, show (0 : Int64) = p_J 0 by decide, show (2 : Int64) = p_J 2 by decide]
      exact r_isIn N (by omega) (by omega) (b := 0) (by omega) (by omega) (c := 2) (by omega) (by omega)
    have d2 : ¬ ((2 : Int32) ≤ 0) := by decide
    have d3 : ¬ ((3 : Int32) ≤ 0) := by decide
    have d0 : (0 : Int32) ≤ 0 := by decide
    rw [i1]
    by_cases e1 : x < 0
    · exact ⟨3, 0, 0, 2, by simp [t1, e1], by simp [t1, e1, d2, d0], Or.inr (Or.inr (Or.inl ⟨rfl, rfl⟩))⟩
    by_cases e2 : (L.length : Int) ≤ x
    · exact ⟨3, 0, 0, 2, by simp [t1, t2, e1, e2], by simp [t1, t2, e1, e2, d2, d0], Or.inr (Or.inr (Or.inl ⟨rfl, rfl⟩))⟩
    by_cases e3 : y < 0
    · rw [decide_eq_false (p := 0 ≤ y) (by omega)]
      exact ⟨2, 0, 0, 3, by simp [t1, t2, t3, e1, e2, e3], by simp [t1, t2, e1, e2, d3, d0], Or.inr (Or.inr (Or.inr ⟨rfl, rfl⟩))⟩
    by_cases e4 : 2 < y
    · rw [decide_eq_false (p := y ≤ 2) (by omega)]
      exact ⟨2, 0, 0, 3, by simp [t1, t2, t3, t4, e1, e2, e3, e4], by simp [t1, t2, e1, e2, d3, d0], Or.inr (Or.inr (Or.inr ⟨rfl, rfl⟩))⟩
    rw [decide_eq_true (p := 0 ≤ y) (by omega), decide_eq_true (p := y ≤ 2) (by omega)]
    obtain ⟨k, hk⟩ : ∃ k : Nat, x = (k : Int) := ⟨x.toNat, by omega⟩
    subst hk
    have hkl : k < L.length := by omega
    obtain ⟨q, hq⟩ : ∃ q, L[k]? = some q := ⟨_, List.getElem?_eq_getElem hkl⟩
    obtain ⟨a1, a2, a3⟩ := s4 k q hq
    obtain ⟨b1, b2, b3⟩ := h17 k q hq
    have j1 : ¬ (40 ≤ k) := by omega
    have j2 : ¬ (41 ≤ k) := by omega
    by_cases e5 : y = 0
    · have q5 : (p_I y = 0) = True := eq_true (t5.2 e5)
      refine ⟨0, p_I q.1, p_I q.1, 0, ?_, ?_, Or.inl ⟨rfl, rfl, rfl⟩⟩
      · simp only [t1, t2, t3, t4, q5, e1, e2, e3, e4, if_false, if_true, not_false_eq_true, Option.bind, p_ix k (show k < 2147483648 by omega), j1, or_self, a1]
      · simp only [t1, t2, q5, e1, e2, d0, if_false, if_true, not_false_eq_true, Option.bind, p_ix k (show k < 2147483648 by omega), j2, or_self, b1, Bool.and_self, Bool.false_eq_true]
    · by_cases e6 : y = 1
      · have q6 : (p_I y = (1 : Int32)) = True := eq_true (t6.2 e6)
        refine ⟨0, p_I (q.2.1 : Nat), p_I (q.2.1 : Nat), 0, ?_, ?_, Or.inl ⟨rfl, rfl, rfl⟩⟩
        · simp only [t1, t2, t3, t4, t5, q6, e1, e2, e3, e4, e5, if_false, if_true, not_false_eq_true, Option.bind, p_ix k (show k < 2147483648 by omega), j1, or_self, a2]
        · simp only [t1, t2, t5, q6, e1, e2, e5, d0, if_false, if_true, not_false_eq_true, Option.bind, p_ix k (show k < 2147483648 by omega), j2, or_self, b2, Bool.and_self, Bool.false_eq_true]
      · refine ⟨0, p_I (q.2.2 : Nat), p_I (q.2.2 : Nat), 0, ?_, ?_, Or.inl ⟨rfl, rfl, rfl⟩⟩
        · simp only [t1, t2, t3, t4, t5, t6, e1, e2, e3, e4, e5, e6, if_false, if_true, not_false_eq_true, Option.bind, p_ix k (show k < 2147483648 by omega), j1, or_self, a3]
        · simp only [t1, t2, t5, t6, e1, e2, e5, e6, d0, if_false, if_true, not_false_eq_true, Option.bind, p_ix k (show k < 2147483648 by omega), j2, or_self, b3, Bool.and_self, Bool.false_eq_true]
theorem z_worth (N : Nat) (c1 vst vpi vit vle vmo : Int32) (tn : Int32) (bw bc : Int64) (va vb : Int32) (h : z_pl S n free w met nw bar least most hpl tc v_told v_tval v_tfit v_tlon pcnt ptc pis pww pwc ppi ppb pps ptb pts pbo mtold mpc mpw mpcn v_mtol mpi mpa mps) (p1 : Int32) :
    ∃ e r r' c, f_RoomFills_worth N tc pcnt ptc pis pww pwc tn bw bc va vb p1 = some (e, r) ∧ f_Model_worth N c1 vst vpi vit vle vmo hpl mtold mpc mpw mpcn p1 = some (r', c) ∧ ((e = 0 ∧ c = 0 ∧ r = r') ∨ (e = 1 ∧ c = 1) ∨ (e = 3 ∧ c = 2)) := by
  obtain ⟨y, rfl, g3, g4⟩ := p_al p1
  have ht := z_tc h
  unfold f_RoomFills_worth f_RoomFills_demandPlan f_Model_worth f_Model_none
  cases hh : hpl with
  | false =>
    rw [if_pos (ht.2 hh)]
    exact ⟨1, 0, 0, 1, rfl, rfl, Or.inr (Or.inl ⟨rfl, rfl⟩)⟩
  | true =>
    rw [if_neg (fun q => by rw [ht.1 q] at hh; cases hh)]
    rcases h with ⟨h1, h2⟩ | ⟨-, td, L, U, T, h2, h3, h4, h5, h6, h7, h8, h9, h10, h11, h12, h13, h14, h15, h16, h17, h18, h19⟩
    · rw [h1] at hh; cases hh
    have t3 : p_I y < 0 ↔ y < 0 := by rw [p_0, p_Ilt] <;> omega
    have t4 : p_I y ≤ (1 : Int32) ↔ ¬ (1 < y) := by rw [p_1, p_Ile] <;> omega
    have t5 : p_I y = 0 ↔ y = 0 := by rw [p_0, p_Ieq] <;> omega
    have i1 : f_Model_isIn N (p_I y).toInt64 0 1 = some (decide (0 ≤ y) && decide (y ≤ 1)) := by
      rw [p_tol g3 g4, show (0 : Int64) = p_J 0 by decide, show (1 : Int64) = p_J 1 by decide]
      exact r_isIn N (by omega) (by omega) (b := 0) (by omega) (by omega) (c := 1) (by omega) (by omega)
    have d2 : ¬ ((2 : Int32) ≤ 0) := by decide
    have d0 : (0 : Int32) ≤ 0 := by decide
    rw [i1]
    by_cases e3 : y < 0
    · rw [decide_eq_false (p := 0 ≤ y) (by omega)]
      exact ⟨3, 0, 0, 2, by simp [t3, e3], by simp [d2, d0], Or.inr (Or.inr ⟨rfl, rfl⟩)⟩
    by_cases e4 : 1 < y
    · rw [decide_eq_false (p := y ≤ 1) (by omega)]
      exact ⟨3, 0, 0, 2, by simp [t3, t4, e3, e4], by simp [d2, d0], Or.inr (Or.inr ⟨rfl, rfl⟩)⟩
    rw [decide_eq_true (p := 0 ≤ y) (by omega), decide_eq_true (p := y ≤ 1) (by omega), h18, h19]
    by_cases e5 : y = 0
    · have q5 : (p_I y = 0) = True := eq_true (t5.2 e5)
      refine ⟨0, mpw, mpw, 0, ?_, ?_, Or.inl ⟨rfl, rfl, rfl⟩⟩
      · simp only [t3, t4, q5, e3, e4, if_false, if_true, not_false_eq_true, Option.bind]
      · simp only [q5, d0, if_false, if_true, Option.bind, Bool.and_self, Bool.false_eq_true]
    · refine ⟨0, mpcn, mpcn, 0, ?_, ?_, Or.inl ⟨rfl, rfl, rfl⟩⟩
      · simp only [t3, t4, t5, e3, e4, e5, if_false, if_true, not_false_eq_true, Option.bind]
      · simp only [t5, e5, d0, if_false, if_true, Option.bind, Bool.and_self, Bool.false_eq_true]
theorem z_top (N : Nat) (hN : 30000 ≤ N) (c1 vst vpi vit vle vmo : Int32) (tn : Int32) (bw bc : Int64) (va vb : Int32) (h : z_pl S n free w met nw bar least most hpl tc v_told v_tval v_tfit v_tlon pcnt ptc pis pww pwc ppi ppb pps ptb pts pbo mtold mpc mpw mpcn v_mtol mpi mpa mps) (p1 p2 : Int32) :
    ∃ e r r' c, f_RoomFills_top N 40 40 tc pcnt ptc pis pww pwc ptb pts tn bw bc va vb p1 p2 = some (e, r) ∧ f_Model_top N 41 41 c1 vst vpi vit vle vmo hpl mtold mpc mpw mpcn mpa mps p1 p2 = some (r', c) ∧ ((e = 0 ∧ c = 0 ∧ r = r') ∨ (e = 1 ∧ c = 1) ∨ (e = 3 ∧ c = 2) ∨ (e = 2 ∧ c = 3)) := by
  obtain ⟨x, rfl, g1, g2⟩ := p_al p1
  obtain ⟨y, rfl, g3, g4⟩ := p_al p2
  have ht := z_tc h
  unfold f_RoomFills_top f_RoomFills_demandPlan f_Model_top f_Model_none
  cases hh : hpl with
  | false =>
    rw [if_pos (ht.2 hh)]
    exact ⟨1, 0, 0, 1, rfl, rfl, Or.inr (Or.inl ⟨rfl, rfl⟩)⟩
  | true =>
    rw [if_neg (fun q => by rw [ht.1 q] at hh; cases hh)]
    rcases h with ⟨h1, h2⟩ | ⟨-, td, L, U, T, h2, h3, h4, h5, h6, h7, h8, h9, h10, h11, h12, h13, h14, h15, h16, h17, h18⟩
    · rw [h1] at hh; cases hh
    obtain ⟨s1, s2, s3, s4, s5, s6⟩ := h12
    subst s2; subst h16
    have hle := ww_tops_le L
    have hcut := r_top_cut N 0 vst vpi vit vle vmo mtold mpw mpcn true h17 h15 h14 ww_tops_le g1 g2 g3 g4 L [] N rfl (by omega)
    have hg0 : ww_g (ww_tops []) x = (0, 0) := by
      unfold ww_g
      split <;> rfl
    rw [hg0] at hcut
    have hcut' : f_Model_top_cut N 41 41 vst vpi vit vle vmo true mtold (p_I L.length) mpw mpcn mpa mps N 0 (p_I x) (p_I y) 0 0 0 0 0 = some (ww_topR (ww_tops L) x y) := hcut
    have t1 : p_I x < (-1 : Int32) ↔ x < -1 := by rw [p_m1, p_Ilt] <;> omega
    have t2 : p_I x < p_I (ww_tops L).length ↔ ¬ (((ww_tops L).length : Int) ≤ x) := by rw [p_Ilt] <;> omega
    have t3 : p_I y < 0 ↔ y < 0 := by rw [p_0, p_Ilt] <;> omega
    have t4 : p_I y ≤ (1 : Int32) ↔ ¬ (1 < y) := by rw [p_1, p_Ile] <;> omega
    have t5 : p_I y = 0 ↔ y = 0 := by rw [p_0, p_Ieq] <;> omega
    have t6 : p_I x = (-1 : Int32) ↔ x = -1 := by rw [p_m1, p_Ieq] <;> omega
    have hm : f_Model_top_cut N 41 41 vst vpi vit vle vmo true mtold (p_I L.length) mpw mpcn mpa mps N 0 (p_I x) (p_I y) 0 0 0 0 0 = some ((ww_topR (ww_tops L) x y).1, (ww_topR (ww_tops L) x y).2) := hcut'
    simp only [Option.bind, if_true]
    rw [if_pos (show (0 : Int32) ≤ 0 by decide)]
    simp only []
    rw [if_neg (show ¬ (false = true) by decide), hm]
    unfold ww_topR
    by_cases e1 : x < -1
    · exact ⟨3, 0, 0, 2, by simp [t1, e1], by simp [e1], Or.inr (Or.inr (Or.inl ⟨rfl, rfl⟩))⟩
    by_cases e2 : ((ww_tops L).length : Int) ≤ x
    · exact ⟨3, 0, 0, 2, by simp [t1, t2, e1, e2], by simp [e2], Or.inr (Or.inr (Or.inl ⟨rfl, rfl⟩))⟩
    rw [if_neg (show ¬ (x < -1 ∨ ((ww_tops L).length : Int) ≤ x) by omega)]
    by_cases e3 : y < 0
    · exact ⟨2, 0, 0, 3, by simp [t1, t2, t3, e1, e2, e3], by simp [e3], Or.inr (Or.inr (Or.inr ⟨rfl, rfl⟩))⟩
    by_cases e4 : 1 < y
    · exact ⟨2, 0, 0, 3, by simp [t1, t2, t3, t4, e1, e2, e3, e4], by simp [e4], Or.inr (Or.inr (Or.inr ⟨rfl, rfl⟩))⟩
    rw [if_neg (show ¬ (y < 0 ∨ 1 < y) by omega)]
    by_cases e5 : x = -1
    · rw [if_pos e5]
      refine ⟨0, p_I (ww_tops L).length, p_I (ww_tops L).length, 0, ?_, rfl, Or.inl ⟨rfl, rfl, rfl⟩⟩
      simp only [t1, t2, t3, t4, t6, e1, e2, e3, e4, if_false, if_true, not_false_eq_true]
      rw [if_pos e5]
    · rw [if_neg e5]
      obtain ⟨k, hk⟩ : ∃ k : Nat, x = (k : Int) := ⟨x.toNat, by omega⟩
      subst hk
      have hkl : k < (ww_tops L).length := by omega
      obtain ⟨q, hq⟩ : ∃ q, (ww_tops L)[k]? = some q := ⟨_, List.getElem?_eq_getElem hkl⟩
      obtain ⟨a1, a2⟩ := s5 k q hq
      have hg := ww_g_in hq
      have j1 : ¬ (40 ≤ k) := by omega
      have j0 := p_inx (k := k) (n := 40) (by omega) (by omega)
      rw [hg]
      by_cases e6 : y = 0
      · have q5 : (p_I y = 0) = True := eq_true (t5.2 e6)
        rw [if_pos e6]
        refine ⟨0, p_I (q.1 : Nat), p_I (q.1 : Nat), 0, ?_, rfl, Or.inl ⟨rfl, rfl, rfl⟩⟩
        simp only [t1, t2, t3, t4, q5, t6, e1, e2, e3, e4, e5, if_false, if_true, not_false_eq_true, p_ix k (show k < 2147483648 by omega), j0, a1]
      · rw [if_neg e6]
        refine ⟨0, p_I (q.2 : Nat), p_I (q.2 : Nat), 0, ?_, rfl, Or.inl ⟨rfl, rfl, rfl⟩⟩
        simp only [t1, t2, t3, t4, t5, t6, e1, e2, e3, e4, e5, e6, if_false, if_true, not_false_eq_true, p_ix k (show k < 2147483648 by omega), j0, a2]
end
