theorem p_al (x : Int32) : ∃ y : Int, x = p_I y ∧ -2147483648 ≤ y ∧ y < 2147483648 := ⟨x.toInt, (p_Ird x).symm, (p_Irg x).1, (p_Irg x).2⟩
theorem p_alJ (x : Int64) : ∃ y : Int, x = p_J y ∧ -9223372036854775808 ≤ y ∧ y < 9223372036854775808 := ⟨x.toInt, (p_Jrd x).symm, (p_Jrg x).1, (p_Jrg x).2⟩
theorem r_pipe_cut (N : Nat) (vst vit vle vmo c2 c3 : Int32) (c4 c5 : Int64) {pc : Nat} {pp : Nat → Int} {v_mpip : Nat → Int32} (hpp : t_pip pc pp v_mpip) {x : Int} (h1 : -2147483648 ≤ x) (h2 : x < 2147483648) (code : Int32) (hp : Bool) :
    ∀ d m e : Nat, ∀ acc : Bool, e + d = pc → d < m → (acc = true ∨ pc < 8) → f_Model_pipe_cut N 8 vst vit vle vmo c2 c3 c4 c5 m 0 (p_I x) acc (p_I e) code (p_I pc) hp v_mpip = some (if (acc || ww_any (fun k => decide (pp k = x)) d e) = true then (false, code, p_I pc, hp, v_mpip) else (true, code, p_I ((pc + 1 : Nat) : Int), false, upd v_mpip pc (p_I x)))
  | 0, m + 1, e, acc, h, _, ha => by
    have := hpp.1
    rw [f_Model_pipe_cut_0, if_pos (by rw [p_Ile] <;> omega)]
    unfold f_Model_change
    cases acc with
    | true => simp [ww_any]
    | false =>
      have hlt : pc < 8 := by
        rcases ha with ha | ha
        · cases ha
        · exact ha
      rw [if_neg (by decide), if_neg (p_in (by omega) (by omega)), p_ix pc (by omega), p_up]
      simp [ww_any]
  | d + 1, m + 1, e, acc, h, hm, ha => by
    have hpc := hpp.1
    obtain ⟨g1, g2, g3⟩ := hpp.2 e (by omega)
    have hany : ww_any (fun k => decide (pp k = x)) (d + 1) e = (decide (pp e = x) || ww_any (fun k => decide (pp k = x)) d (e + 1)) := rfl
    rw [f_Model_pipe_cut_0, if_neg (by rw [p_Ile] <;> omega), p_up, hany]
    cases acc with
    | true =>
      rw [if_pos rfl, r_pipe_cut N vst vit vle vmo c2 c3 c4 c5 hpp h1 h2 code hp d m (e + 1) true (by omega) (by omega) (Or.inl rfl)]
      simp
    | false =>
      have hlt : pc < 8 := by
        rcases ha with ha | ha
        · cases ha
        · exact ha
      rw [if_neg (by decide), if_neg (p_in (by omega) (by omega)), p_ix e (by omega), g1]
      by_cases c : pp e = x
      · rw [if_pos (by rw [c]), r_pipe_cut N vst vit vle vmo c2 c3 c4 c5 hpp h1 h2 code hp d m (e + 1) true (by omega) (by omega) (Or.inl rfl), decide_eq_true c]
        simp
      · rw [if_neg (by rw [p_Ieq] <;> omega), r_pipe_cut N vst vit vle vmo c2 c3 c4 c5 hpp h1 h2 code hp d m (e + 1) false (by omega) (by omega) (Or.inr hlt), decide_eq_false c]
        simp
theorem z_pipe (N : Nat) (hN : 30000 ≤ N) (c1 vit vle vmo c2 c3 : Int32) (c4 c5 : Int64) (hp : Bool) {S pc : Nat} {pp : Nat → Int} {free : Nat → Bool} {ws wp : Int32} {v_wfree v_wpip : Nat → Int32} {ms mp : Int32} {v_mfree v_mpip : Nat → Int32} (hz : z_wall S pc pp free ws wp v_wfree v_wpip ms mp v_mfree v_mpip) (tc p1 : Int32) :
    (f_RoomFills_pipe N 8 tc ws wp v_wpip p1 = some (2, false, tc, wp, v_wpip) ∧ f_Model_pipe N 8 c1 ms mp vit vle vmo hp c2 c3 c4 c5 v_mpip p1 = some (false, 1, mp, hp, v_mpip)) ∨
    (∃ r wp' mp' vp vmp pc' pp', f_RoomFills_pipe N 8 tc ws wp v_wpip p1 = some (0, r, (if r = true then 0 else tc), wp', vp) ∧ f_Model_pipe N 8 c1 ms mp vit vle vmo hp c2 c3 c4 c5 v_mpip p1 = some (r, 0, mp', (if r = true then false else hp), vmp) ∧ z_wall S pc' pp' free ws wp' v_wfree vp ms mp' v_mfree vmp ∧ (r = false → pc' = pc ∧ pp' = pp)) := by
  obtain ⟨rfl, rfl, h1, h2, rfl, rfl, h5, h6, h7, h8⟩ := hz
  obtain ⟨x, rfl, g1, g2⟩ := p_al p1
  have hpc := h5.1
  have t1 : p_I x < 0 ↔ x < 0 := by rw [p_0, p_Ilt] <;> omega
  have t2 : p_I S ≤ p_I x ↔ (S : Int) ≤ x := by rw [p_Ile] <;> omega
  have t3 : p_I x < p_I S ↔ ¬ ((S : Int) ≤ x) := by rw [p_Ilt] <;> omega
  have d0 : ¬ ((0 : Int32) < 0) := by decide
  have d1' : (0 : Int32) < 1 := by decide
  have bad := r_pipe_cut N (p_I S) vit vle vmo c2 c3 c4 c5 h6 g1 g2 1 hp pc N 0 true (by omega) (by omega) (Or.inl rfl)
  have bad' : f_Model_pipe_cut N 8 (p_I S) vit vle vmo c2 c3 c4 c5 N 0 (p_I x) true 0 1 (p_I pc) hp v_mpip = some (false, 1, p_I pc, hp, v_mpip) := by
    rw [Bool.true_or, if_pos rfl] at bad
    exact bad
  unfold f_RoomFills_pipe f_Model_pipe f_Wall_isStep
  by_cases d1 : x < 0
  · left
    constructor <;> simp [t1, d1, bad', d1']
  by_cases d2 : (S : Int) ≤ x
  · left
    constructor <;> simp [t1, t2, t3, d1, d2, bad', d1']
  right
  simp only [t1, t2, t3, d1, d2, d0, if_true, if_false, not_false_eq_true, Option.bind]
  unfold f_Wall_addPipe f_RoomFills_news
  by_cases c8 : pc = 8
  · have good := r_pipe_cut N (p_I S) vit vle vmo c2 c3 c4 c5 h6 g1 g2 0 hp pc N 0 true (by omega) (by omega) (Or.inl rfl)
    rw [Bool.true_or, if_pos rfl] at good
    refine ⟨false, p_I pc, p_I pc, v_wpip, v_mpip, pc, pp, ?_, ?_, ⟨rfl, rfl, h1, h2, rfl, rfl, h5, h6, h7, h8⟩, fun _ => ⟨rfl, rfl⟩⟩
    · rw [if_pos (by rw [p_8, p_Ile] <;> omega)]; rfl
    · rw [if_pos (by rw [c8]; decide)]
      exact good
  · have good := r_pipe_cut N (p_I S) vit vle vmo c2 c3 c4 c5 h6 g1 g2 0 hp pc N 0 false (by omega) (by omega) (Or.inr (by omega))
    rw [Bool.false_or] at good
    rw [if_neg (show ¬ (p_I pc = (8 : Int32)) by rw [p_8, p_Ieq] <;> omega), if_neg (show ¬ ((8 : Int32) ≤ p_I pc) by rw [p_8, p_Ile] <;> omega)]
    have hw := t_hpw N hN (p_I S) pc pp v_wpip h5.1 h5.2 (bg := x) (w := 1) (mo := 0) (by omega) (by omega) (by omega)
    have hq : ww_any (ww_pq pp (x - 0) (x + 1 - 1 + 0)) pc 0 = ww_any (fun k => decide (pp k = x)) pc 0 := by
      rw [Bool.eq_iff_iff, ww_any_iff, ww_any_iff]
      constructor
      · rintro ⟨k, q1, q2, q3⟩
        unfold ww_pq at q3
        rw [Bool.and_eq_true, decide_eq_true_eq, decide_eq_true_eq] at q3
        exact ⟨k, q1, q2, decide_eq_true (by omega)⟩
      · rintro ⟨k, q1, q2, q3⟩
        rw [decide_eq_true_eq] at q3
        refine ⟨k, q1, q2, ?_⟩
        unfold ww_pq
        rw [decide_eq_true (by omega), decide_eq_true (by omega)]; rfl
    rw [hq] at hw
    have hw' : f_Wall_hasPipeWithin N 8 (p_I S) (p_I pc) v_wpip (p_I x) 1 0 = some (ww_any (fun k => decide (pp k = x)) pc 0) := hw
    have good' : f_Model_pipe_cut N 8 (p_I S) vit vle vmo c2 c3 c4 c5 N 0 (p_I x) false 0 0 (p_I pc) hp v_mpip = _ := good
    rw [hw', good']
    cases hr : ww_any (fun k => decide (pp k = x)) pc 0 with
    | true =>
      exact ⟨false, p_I pc, p_I pc, v_wpip, v_mpip, pc, pp, rfl, rfl, ⟨rfl, rfl, h1, h2, rfl, rfl, h5, h6, h7, h8⟩, fun _ => ⟨rfl, rfl⟩⟩
    | false =>
      have add : ∀ v : Nat → Int32, t_pip pc pp v → t_pip (pc + 1) (fun k => if k = pc then x else pp k) (upd v pc (p_I x)) := by
        intro v hv
        refine ⟨by omega, fun k hk => ?_⟩
        rw [p_u]
        by_cases ck : k = pc
        · simp only [if_pos ck]; exact ⟨trivial, by omega, by omega⟩
        · simp only [if_neg ck]; exact hv.2 k (by omega)
      refine ⟨true, p_I ((pc + 1 : Nat) : Int), p_I ((pc + 1 : Nat) : Int), upd v_wpip pc (p_I x), upd v_mpip pc (p_I x), pc + 1, fun k => if k = pc then x else pp k, ?_, rfl, ⟨rfl, rfl, h1, h2, rfl, rfl, add v_wpip h5, add v_mpip h6, h7, h8⟩, fun h => by cases h⟩
      rw [if_neg (p_in (k := pc) (n := 8) (by omega) (by omega)), p_ix pc (by omega), p_up]
      rfl
def z_fil (least most : Nat) (fl fm ml mm : Int32) : Prop := 1 ≤ least ∧ least ≤ 40 ∧ most ≤ 40 ∧ fl = p_I least ∧ fm = p_I most ∧ ml = p_I least ∧ mm = p_I most
theorem z_filler (N : Nat) (c1 vst vpi vit c2 c3 : Int32) (c4 c5 : Int64) (hp : Bool) {least most : Nat} {fl fm ml mm : Int32} (hz : z_fil least most fl fm ml mm) (tc p1 p2 : Int32) :
    (f_RoomFills_filler N tc fl fm p1 p2 = some (2, false, tc, fl, fm) ∧ f_Model_filler N c1 vst vpi vit ml mm hp c2 c3 c4 c5 p1 p2 = some (false, 1, ml, mm, hp)) ∨
    (∃ r fl' fm' least' most', f_RoomFills_filler N tc fl fm p1 p2 = some (0, r, (if r = true then 0 else tc), fl', fm') ∧ f_Model_filler N c1 vst vpi vit ml mm hp c2 c3 c4 c5 p1 p2 = some (r, 0, fl', fm', (if r = true then false else hp)) ∧ z_fil least' most' fl' fm' fl' fm' ∧ (r = false → least' = least ∧ most' = most)) := by
  obtain ⟨h1, h2, h3, rfl, rfl, rfl, rfl⟩ := hz
  obtain ⟨x, rfl, g1, g2⟩ := p_al p1
  obtain ⟨y, rfl, g3, g4⟩ := p_al p2
  have t1 : p_I x < 1 ↔ x < 1 := by rw [p_1, p_Ilt] <;> omega
  have t2 : (40 : Int32) < p_I x ↔ 40 < x := by rw [show (40 : Int32) = p_I 40 by decide, p_Ilt] <;> omega
  have t3 : p_I y < p_I x ↔ y < x := by rw [p_Ilt] <;> omega
  have t4 : p_I y ≤ (40 : Int32) ↔ ¬ (40 < y) := by rw [show (40 : Int32) = p_I 40 by decide, p_Ile] <;> omega
  have t5 : p_I least = p_I x ↔ (least : Int) = x := by rw [p_Ieq] <;> omega
  have t6 : p_I most = p_I y ↔ (most : Int) = y := by rw [p_Ieq] <;> omega
  have i1 : f_Model_isIn N (p_I x).toInt64 1 40 = some (decide (1 ≤ x) && decide (x ≤ 40)) := by
    rw [p_tol g1 g2, show (1 : Int64) = p_J 1 by decide, show (40 : Int64) = p_J 40 by decide]
    exact r_isIn N (by omega) (by omega) (b := 1) (by omega) (by omega) (c := 40) (by omega) (by omega)
  have i2 : f_Model_isIn N (p_I y).toInt64 (p_I x).toInt64 40 = some (decide (x ≤ y) && decide (y ≤ 40)) := by
    rw [p_tol g1 g2, p_tol g3 g4, show (40 : Int64) = p_J 40 by decide]
    exact r_isIn N (by omega) (by omega) (b := x) (by omega) (by omega) (c := 40) (by omega) (by omega)
  have d1 : (0 : Int32) < 1 := by decide
  have d0 : ¬ ((0 : Int32) < 0) := by decide
  unfold f_RoomFills_filler f_Model_filler f_Model_change
  rw [i1, i2]
  by_cases e1 : x < 1
  · left
    rw [decide_eq_false (by omega)]
    constructor <;> simp [t1, e1, d1]
  by_cases e2 : 40 < x
  · left
    rw [decide_eq_false (p := x ≤ 40) (by omega)]
    constructor <;> simp [t1, t2, e1, e2, d1]
  rw [decide_eq_true (p := 1 ≤ x) (by omega), decide_eq_true (p := x ≤ 40) (by omega)]
  by_cases e3 : y < x
  · left
    rw [decide_eq_false (p := x ≤ y) (by omega)]
    constructor <;> simp [t1, t2, t3, e1, e2, e3, d1]
  by_cases e4 : 40 < y
  · left
    rw [decide_eq_false (p := y ≤ 40) (by omega)]
    constructor <;> simp [t1, t2, t3, t4, e1, e2, e3, e4, d1]
  rw [decide_eq_true (p := x ≤ y) (by omega), decide_eq_true (p := y ≤ 40) (by omega)]
  right
  obtain ⟨a, ha⟩ : ∃ a : Nat, x = (a : Int) := ⟨x.toNat, by omega⟩
  obtain ⟨b, hb⟩ : ∃ b : Nat, y = (b : Int) := ⟨y.toNat, by omega⟩
  subst ha; subst hb
  unfold f_Fillers_setRange f_RoomFills_news
  by_cases e5 : (least : Int) = (a : Int)
  · by_cases e6 : (most : Int) = (b : Int)
    · refine ⟨false, p_I a, p_I b, least, most, ?_, ?_, ⟨h1, h2, h3, by rw [e5], by rw [e6], by rw [e5], by rw [e6]⟩, fun _ => ⟨rfl, rfl⟩⟩
      · simp [t1, t2, t3, t4, t5, t6, e1, e2, e3, e4, e5, e6]
      · simp [t5, t6, e5, e6, d0]
    · refine ⟨true, p_I a, p_I b, a, b, ?_, ?_, ⟨by omega, by omega, by omega, rfl, rfl, rfl, rfl⟩, fun h => by cases h⟩
      · simp [t1, t2, t3, t4, t5, t6, e1, e2, e3, e4, e5, e6]
      · simp [t5, t6, e5, e6, d0]
  · refine ⟨true, p_I a, p_I b, a, b, ?_, ?_, ⟨by omega, by omega, by omega, rfl, rfl, rfl, rfl⟩, fun h => by cases h⟩
    · simp [t1, t2, t3, t4, t5, e1, e2, e3, e4, e5]
    · simp [t5, e5, d0]
def z_put (n : Nat) (put : Nat → Int) (v_rbeg v_mput : Nat → Int32) : Prop := ∀ k, k < 6 → v_rbeg k = p_I (put k) ∧ v_mput k = p_I (put k) ∧ -101 ≤ put k ∧ put k ≤ 100 ∧ (n ≤ k → put k = -101)
theorem z_place (N : Nat) (c1 vst vpi vle vmo c2 c3 : Int32) (c4 c5 : Int64) (hp : Bool) {n : Nat} (hn : n ≤ 6) {put : Nat → Int} {v_rbeg v_mput : Nat → Int32} (hz : z_put n put v_rbeg v_mput) (tc vms p1 p2 : Int32) :
    (∃ e : Nat, (e = 3 ∨ e = 2) ∧ f_RoomFills_place N 6 tc vms (p_I n) v_rbeg p1 p2 = some (e, false, v_rbeg) ∧ f_Model_place N 6 c1 vst vpi (p_I n) vle vmo hp c2 c3 c4 c5 v_mput p1 p2 = some (false, (if e = 3 then 1 else 2), v_mput)) ∨
    (∃ r vb vm' put', f_RoomFills_place N 6 tc vms (p_I n) v_rbeg p1 p2 = some (0, r, vb) ∧ f_Model_place N 6 c1 vst vpi (p_I n) vle vmo hp c2 c3 c4 c5 v_mput p1 p2 = some (r, 0, vm') ∧ z_put n put' vb vm') := by
  obtain ⟨x, rfl, g1, g2⟩ := p_al p1
  obtain ⟨y, rfl, g3, g4⟩ := p_al p2
  have t1 : p_I x < 0 ↔ x < 0 := by rw [p_0, p_Ilt] <;> omega
  have t2 : p_I x < p_I n ↔ ¬ ((n : Int) ≤ x) := by rw [p_Ilt] <;> omega
  have t2' : p_I n ≤ p_I x ↔ ((n : Int) ≤ x) := by rw [p_Ile] <;> omega
  have t3 : p_I y < (-101 : Int32) ↔ y < -101 := by rw [show (-101 : Int32) = p_I (-101) by decide, p_Ilt] <;> omega
  have t4 : p_I y ≤ (100 : Int32) ↔ ¬ (100 < y) := by rw [show (100 : Int32) = p_I 100 by decide, p_Ile] <;> omega
  have i1 : f_Model_isIn N (p_I y).toInt64 (-101) 100 = some (decide (-101 ≤ y) && decide (y ≤ 100)) := by
    rw [p_tol g3 g4, show (-101 : Int64) = p_J (-101) by decide, show (100 : Int64) = p_J 100 by decide]
    exact r_isIn N (by omega) (by omega) (b := -101) (by omega) (by omega) (c := 100) (by omega) (by omega)
  have d1 : (0 : Int32) < 1 := by decide
  have d2 : (0 : Int32) < 2 := by decide
  have d0 : ¬ ((0 : Int32) < 0) := by decide
  unfold f_RoomFills_place f_RoomFills_demandItem f_Model_place f_Model_isItem
  rw [i1]
  by_cases e1 : x < 0
  · left
    exact ⟨3, Or.inl rfl, by simp [t1, e1], by simp [t1, e1, d1]⟩
  by_cases e2 : (n : Int) ≤ x
  · left
    exact ⟨3, Or.inl rfl, by simp [t1, t2, e1, e2], by simp [t1, t2', e1, e2, d1]⟩
  by_cases e3 : y < -101
  · left
    rw [decide_eq_false (p := -101 ≤ y) (by omega)]
    exact ⟨2, Or.inr rfl, by simp [t1, t2, t3, e1, e2, e3], by simp [t1, t2', e1, e2, d2]⟩
  by_cases e4 : 100 < y
  · left
    rw [decide_eq_false (p := y ≤ 100) (by omega)]
    exact ⟨2, Or.inr rfl, by simp [t1, t2, t3, t4, e1, e2, e3, e4], by simp [t1, t2', e1, e2, d2]⟩
  rw [decide_eq_true (p := -101 ≤ y) (by omega), decide_eq_true (p := y ≤ 100) (by omega)]
  right
  obtain ⟨a, ha⟩ : ∃ a : Nat, x = (a : Int) := ⟨x.toNat, by omega⟩
  subst ha
  obtain ⟨q1, q2, q3, q4, q5⟩ := hz a (by omega)
  have i2 := p_in (k := a) (n := 6) (by omega) (by omega)
  have i3 := p_ix a (by omega)
  have i4 : ¬ (6 ≤ a) := by omega
  unfold f_Row_put
  have t5 : p_I (put a) = p_I y ↔ put a = y := by rw [p_Ieq] <;> omega
  have hput : z_put n (fun k => if k = a then y else put k) (upd v_rbeg a (p_I y)) (upd v_mput a (p_I y)) := by
    intro k hk
    rw [p_u, p_u]
    by_cases ck : k = a
    · simp only [if_pos ck]
      exact ⟨trivial, trivial, by omega, by omega, fun h => by omega⟩
    · simp only [if_neg ck]
      exact hz k hk
  by_cases e5 : put a = y
  · refine ⟨false, upd v_rbeg a (p_I y), v_mput, put, ?_, ?_, ?_⟩
    · simp only [t1, t2, t3, t4, e1, e2, e3, e4, if_true, if_false, not_false_eq_true, Option.bind, i3, i4, or_self, q1, t5, e5]
    · simp only [t1, t2', e1, e2, if_true, if_false, Option.bind, i3, i4, or_self, q2, t5, e5, d0, Bool.and_self]
    · intro k hk
      rw [p_u]
      by_cases ck : k = a
      · subst ck; rw [if_pos rfl, ← e5]; exact ⟨rfl, q2, q3, q4, q5⟩
      · rw [if_neg ck]; exact hz k hk
  · refine ⟨true, upd v_rbeg a (p_I y), upd v_mput a (p_I y), fun k => if k = a then y else put k, ?_, ?_, hput⟩
    · simp only [t1, t2, t3, t4, e1, e2, e3, e4, if_true, if_false, not_false_eq_true, Option.bind, i3, i4, or_self, q1, t5, e5]
    · simp only [t1, t2', e1, e2, if_true, if_false, Option.bind, i3, i4, or_self, q2, t5, e5, d0, Bool.and_self]
