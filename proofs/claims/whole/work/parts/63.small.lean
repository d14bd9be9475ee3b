theorem p_tol {x : Int} (h1 : -2147483648 ≤ x) (h2 : x < 2147483648) : (p_I x).toInt64 = p_J x := by
  apply Int64.toInt_inj.1
  rw [Int32.toInt_toInt64, p_Iint h1 h2, p_Jint (by omega) (by omega)]
theorem p_Ird (x : Int32) : p_I x.toInt = x := by
  unfold p_I
  exact Int32.ofInt_toInt x
theorem p_Irg (x : Int32) : -2147483648 ≤ x.toInt ∧ x.toInt < 2147483648 := by
  have h1 := Int32.le_toInt x
  have h2 := Int32.toInt_lt x
  omega
theorem p_Jrg (x : Int64) : -9223372036854775808 ≤ x.toInt ∧ x.toInt < 9223372036854775808 := by
  have h1 := Int64.le_toInt x
  have h2 := Int64.toInt_lt x
  omega
theorem p_Jlt2 {a b : Int} (h1 : -9223372036854775808 ≤ a) (h2 : a < 9223372036854775808) (h3 : -9223372036854775808 ≤ b) (h4 : b < 9223372036854775808) : (p_J a < p_J b) ↔ a < b := by
  rw [Int64.lt_iff_toInt_lt, p_Jint h1 h2, p_Jint h3 h4]
theorem p_Jeq2 {a b : Int} (h1 : -9223372036854775808 ≤ a) (h2 : a < 9223372036854775808) (h3 : -9223372036854775808 ≤ b) (h4 : b < 9223372036854775808) : (p_J a = p_J b) ↔ a = b := by
  constructor
  · intro h
    have := congrArg Int64.toInt h
    rwa [p_Jint h1 h2, p_Jint h3 h4] at this
  · intro h; rw [h]
theorem r_isIn (N : Nat) {a b c : Int} (h1 : -9223372036854775808 ≤ a) (h2 : a < 9223372036854775808) (h3 : -9223372036854775808 ≤ b) (h4 : b < 9223372036854775808) (h5 : -9223372036854775808 ≤ c) (h6 : c < 9223372036854775808) : f_Model_isIn N (p_J a) (p_J b) (p_J c) = some (decide (b ≤ a) && decide (a ≤ c)) := by
  unfold f_Model_isIn
  by_cases e1 : a < b
  · rw [if_pos (by rw [lg_cmp_lt, p_Jlt2] <;> omega), decide_eq_false (by omega)]; rfl
  · rw [if_neg (by rw [lg_cmp_lt, p_Jlt2] <;> omega), decide_eq_true (by omega)]
    by_cases e2 : c < a
    · rw [if_pos (by rw [lg_cmp_gt, p_Jlt2] <;> omega), decide_eq_false (by omega)]; rfl
    · rw [if_neg (by rw [lg_cmp_gt, p_Jlt2] <;> omega), decide_eq_true (by omega)]; rfl
theorem t_money (N : Nat) {a : Int} (h1 : -9223372036854775808 ≤ a) (h2 : a < 9223372036854775808) : f_RoomFills_isMoney N (p_J a) = some (decide (0 ≤ a) && decide (a ≤ 100000)) := by
  unfold f_RoomFills_isMoney
  rw [show (100000 : Int64) = p_J 100000 by decide, p_J0]
  by_cases e1 : a < 0
  · rw [if_pos (by rw [lg_cmp_lt, p_Jlt2] <;> omega), decide_eq_false (by omega)]; rfl
  · rw [if_neg (by rw [lg_cmp_lt, p_Jlt2] <;> omega), decide_eq_true (by omega)]
    by_cases e2 : 100000 < a
    · rw [if_pos (by rw [lg_cmp_gt, p_Jlt2] <;> omega), decide_eq_false (by omega)]; rfl
    · rw [if_neg (by rw [lg_cmp_gt, p_Jlt2] <;> omega), decide_eq_true (by omega)]; rfl
def z_wall (S pc : Nat) (pp : Nat → Int) (free : Nat → Bool) (ws wp : Int32) (v_wfree v_wpip : Nat → Int32) (ms mp : Int32) (v_mfree v_mpip : Nat → Int32) : Prop :=
  ws = p_I S ∧ ms = p_I S ∧ 1 ≤ S ∧ S ≤ 40 ∧ wp = p_I pc ∧ mp = p_I pc ∧ t_pip pc pp v_wpip ∧ t_pip pc pp v_mpip ∧ (∀ k, k < S → (v_wfree k = 0 ↔ free k = false)) ∧ (∀ k, k < S → (v_mfree k = 0 ↔ free k = false))
theorem t_mf_cut (N : Nat) (vpc : Int32) {S : Nat} (hS : S ≤ 40) {to : Nat} (hto : to ≤ S) (x1 : Int32) : ∀ d m e : Nat, ∀ (acc : Bool) (free : Nat → Bool) (v : Nat → Int32), e + d = to → d < m → (∀ k, k < S → (v k = 0 ↔ free k = false)) →
    ∃ v', f_Wall_makeFree_cut N S (p_I S) vpc m 0 x1 (p_I to) acc (p_I e) v = some (acc || ww_any (fun k => !(free k)) d e, v') ∧ (∀ k, k < S → (v' k = 0 ↔ (free k || (decide (e ≤ k) && decide (k < to))) = false))
  | 0, m + 1, e, acc, free, v, h, _, hv => by
    refine ⟨v, ?_, ?_⟩
    · rw [f_Wall_makeFree_cut_0, if_pos (by rw [p_Ile] <;> omega)]
      simp [ww_any]
    · intro k hk
      rw [hv k hk]
      by_cases c : e ≤ k
      · rw [decide_eq_false (p := k < to) (by omega), Bool.and_false, Bool.or_false]
      · rw [decide_eq_false c, Bool.false_and, Bool.or_false]
  | d + 1, m + 1, e, acc, free, v, h, hm, hv => by
    have hany : ww_any (fun k => !(free k)) (d + 1) e = (!(free e) || ww_any (fun k => !(free k)) d (e + 1)) := rfl
    rw [f_Wall_makeFree_cut_0, if_neg (by rw [p_Ile] <;> omega), if_neg (p_in (by omega) (by omega)), p_ix e (by omega), p_up, hany]
    by_cases c : free e = true
    · rw [if_neg (by rw [hv e (by omega), c]; decide), c]
      obtain ⟨v', k1, k2⟩ := t_mf_cut N vpc hS hto x1 d m (e + 1) acc free v (by omega) (by omega) hv
      refine ⟨v', k1, fun k hk => ?_⟩
      rw [k2 k hk]
      by_cases ck : k = e
      · subst ck; rw [c]; rfl
      · rw [show decide (e + 1 ≤ k) = decide (e ≤ k) from decide_eq_decide.2 (by omega)]
    · have c' : free e = false := by simpa using c
      rw [if_pos ((hv e (by omega)).2 c'), if_neg (p_inx (by omega) (by omega)), c']
      obtain ⟨v', k1, k2⟩ := t_mf_cut N vpc hS hto x1 d m (e + 1) true (fun k => free k || decide (k = e)) (upd v e (vp_nar .boolean 1)) (by omega) (by omega) (by
        intro k hk
        rw [p_u]
        by_cases ck : k = e
        · rw [if_pos ck, decide_eq_true ck, Bool.or_true]; simp [r_n0]
        · rw [if_neg ck, decide_eq_false ck, Bool.or_false]; exact hv k hk)
      refine ⟨v', ?_, fun k hk => ?_⟩
      · rw [k1]; simp
      · rw [k2 k hk]
        by_cases ck : k = e
        · subst ck; rw [decide_eq_true (p := k = k) rfl, decide_eq_true (p := k ≤ k) (Nat.le_refl _), decide_eq_true (p := k < to) (by omega)]; simp
        · rw [decide_eq_false ck, Bool.or_false, show decide (e + 1 ≤ k) = decide (e ≤ k) from decide_eq_decide.2 (by omega)]
theorem r_door_cut (N : Nat) (vit vle vmo c2 c3 : Int32) (c4 c5 : Int64) (vpi : Int32) {S : Nat} (hS : S ≤ 40) {to : Nat} (hto : to ≤ S) (x1 : Int32) (hp : Bool) : ∀ d m e : Nat, ∀ (acc : Bool) (free : Nat → Bool) (v : Nat → Int32), e + d = to → d < m → (∀ k, k < S → (v k = 0 ↔ free k = false)) →
    ∃ v', f_Model_door_cut N 41 (p_I S) vpi vit vle vmo c2 c3 c4 c5 m 0 x1 (p_I to) acc (p_I e) 0 hp v = some (acc || ww_any (fun k => !(free k)) d e, 0, (if (acc || ww_any (fun k => !(free k)) d e) = true then false else hp), v') ∧ (∀ k, k < S → (v' k = 0 ↔ (free k || (decide (e ≤ k) && decide (k < to))) = false))
  | 0, m + 1, e, acc, free, v, h, _, hv => by
    refine ⟨v, ?_, ?_⟩
    · rw [f_Model_door_cut_0, if_pos (by rw [p_Ile] <;> omega)]
      unfold f_Model_change
      cases acc <;> simp [ww_any]
    · intro k hk
      rw [hv k hk]
      by_cases c : e ≤ k
      · rw [decide_eq_false (p := k < to) (by omega), Bool.and_false, Bool.or_false]
      · rw [decide_eq_false c, Bool.false_and, Bool.or_false]
  | d + 1, m + 1, e, acc, free, v, h, hm, hv => by
    have hany : ww_any (fun k => !(free k)) (d + 1) e = (!(free e) || ww_any (fun k => !(free k)) d (e + 1)) := rfl
    have i1 := p_inx (k := e) (n := 41) (by omega) (by omega)
    rw [f_Model_door_cut_0, if_neg (by rw [p_Ile] <;> omega), if_pos rfl]
    simp only [p_ix e (show e < 2147483648 by omega), i1, if_false, p_up]
    rw [hany]
    have go : ∀ acc' : Bool, (acc || !(free e)) = acc' → ∃ v', f_Model_door_cut N 41 (p_I S) vpi vit vle vmo c2 c3 c4 c5 m 0 x1 (p_I to) acc' (p_I ((e + 1 : Nat) : Int)) 0 hp (upd v e (vp_nar .boolean 1)) = some (acc || (!(free e) || ww_any (fun k => !(free k)) d (e + 1)), 0, (if (acc || (!(free e) || ww_any (fun k => !(free k)) d (e + 1))) = true then false else hp), v') ∧ (∀ k, k < S → (v' k = 0 ↔ (free k || (decide (e ≤ k) && decide (k < to))) = false)) := by
      intro acc' hacc
      obtain ⟨v', k1, k2⟩ := r_door_cut N vit vle vmo c2 c3 c4 c5 vpi hS hto x1 hp d m (e + 1) acc' (fun k => free k || decide (k = e)) (upd v e (vp_nar .boolean 1)) (by omega) (by omega) (by
        intro k hk
        rw [p_u]
        by_cases ck : k = e
        · rw [if_pos ck, decide_eq_true ck, Bool.or_true]; simp [r_n0]
        · rw [if_neg ck, decide_eq_false ck, Bool.or_false]; exact hv k hk)
      have hw : ww_any (fun k => !(free k || decide (k = e))) d (e + 1) = ww_any (fun k => !(free k)) d (e + 1) := by
        rw [Bool.eq_iff_iff, ww_any_iff, ww_any_iff]
        constructor
        · rintro ⟨k, h1, h2, h3⟩
          rw [decide_eq_false (by omega), Bool.or_false] at h3
          exact ⟨k, h1, h2, h3⟩
        · rintro ⟨k, h1, h2, h3⟩
          refine ⟨k, h1, h2, ?_⟩
          rw [decide_eq_false (by omega), Bool.or_false]; exact h3
      refine ⟨v', ?_, fun k hk => ?_⟩
      · rw [k1, hw, ← hacc, Bool.or_assoc]
      · rw [k2 k hk]
        by_cases ck : k = e
        · subst ck; rw [decide_eq_true (p := k = k) rfl, decide_eq_true (p := k ≤ k) (Nat.le_refl _), decide_eq_true (p := k < to) (by omega)]; simp
        · rw [decide_eq_false ck, Bool.or_false, show decide (e + 1 ≤ k) = decide (e ≤ k) from decide_eq_decide.2 (by omega)]
    cases acc with
    | true =>
      rw [if_pos rfl]
      exact go true rfl
    | false =>
      rw [if_neg (by decide)]
      by_cases c : free e = true
      · rw [if_neg (by rw [hv e (by omega), c]; decide)]
        exact go false (by rw [c]; rfl)
      · have c' : free e = false := by simpa using c
        rw [if_pos ((hv e (by omega)).2 c')]
        exact go true (by rw [c']; rfl)
theorem r_door_bad (N : Nat) (vst vit vle vmo c2 c3 : Int32) (c4 c5 : Int64) (vpi : Int32) (hp : Bool) (x1 x2 x4 : Int32) (v : Nat → Int32) (hN : 30000 ≤ N) : f_Model_door_cut N 41 vst vpi vit vle vmo c2 c3 c4 c5 N 0 x1 x2 false x4 1 hp v = some (false, 1, hp, v) := by
  obtain ⟨m, hm⟩ : ∃ m, N = m + 1 := ⟨N - 1, by omega⟩
  have e : f_Model_door_cut N 41 vst vpi vit vle vmo c2 c3 c4 c5 (m + 1) 0 x1 x2 false x4 1 hp v = some (false, 1, hp, v) := by
    rw [f_Model_door_cut_0]
    split
    · rw [if_neg (by decide)]
    · rw [if_neg (by decide), if_neg (by decide)]
  rw [← hm] at e
  exact e
theorem z_door (N : Nat) (hN : 30000 ≤ N) (c1 vit vle vmo c2 c3 : Int32) (c4 c5 : Int64) (hp : Bool) {S pc : Nat} {pp : Nat → Int} {free : Nat → Bool} {ws wp : Int32} {v_wfree v_wpip : Nat → Int32} {ms mp : Int32} {v_mfree v_mpip : Nat → Int32} (hz : z_wall S pc pp free ws wp v_wfree v_wpip ms mp v_mfree v_mpip) (tc p1 p2 : Int32) :
    (f_RoomFills_door N S tc ws wp v_wfree p1 p2 = some (2, false, tc, v_wfree) ∧ f_Model_door N 41 c1 ms mp vit vle vmo hp c2 c3 c4 c5 v_mfree p1 p2 = some (false, 1, hp, v_mfree)) ∨
    (∃ r vf vmf free', f_RoomFills_door N S tc ws wp v_wfree p1 p2 = some (0, r, (if r = true then 0 else tc), vf) ∧ f_Model_door N 41 c1 ms mp vit vle vmo hp c2 c3 c4 c5 v_mfree p1 p2 = some (r, 0, (if r = true then false else hp), vmf) ∧ z_wall S pc pp free' ws wp vf v_wpip ms mp vmf v_mpip ∧ (r = false → free' = free)) := by
  obtain ⟨rfl, rfl, h1, h2, rfl, rfl, h5, h6, h7, h8⟩ := hz
  obtain ⟨x, hx⟩ : ∃ x : Int, x = p1.toInt := ⟨_, rfl⟩
  obtain ⟨y, hy⟩ : ∃ y : Int, y = p2.toInt := ⟨_, rfl⟩
  have g1 := p_Irg p1
  have g2 := p_Irg p2
  have e1 := p_Ird p1
  have e2 := p_Ird p2
  rw [← hx] at g1 e1
  rw [← hy] at g2 e2
  rw [← e1, ← e2]
  unfold f_RoomFills_door f_Model_door f_Wall_isStep
  have bad := fun (x1 x2 x4 : Int32) => r_door_bad N (p_I S) vit vle vmo c2 c3 c4 c5 (p_I pc) hp x1 x2 x4 v_mfree hN
  have t1 : p_I x < 0 ↔ x < 0 := by rw [p_0, p_Ilt] <;> omega
  have t2 : p_I S ≤ p_I x ↔ (S : Int) ≤ x := by rw [p_Ile] <;> omega
  have t3 : p_I y ≤ p_I x ↔ y ≤ x := by rw [p_Ile] <;> omega
  have t4 : p_I y ≤ p_I S ↔ ¬ ((S : Int) < y) := by rw [p_Ile] <;> omega
  by_cases d1 : x < 0
  · left
    constructor <;> simp [t1, d1, bad]
  by_cases d2 : (S : Int) ≤ x
  · left
    constructor <;> simp [t1, t2, d1, d2, bad]
  by_cases d3 : y ≤ x
  · left
    constructor <;> simp [t1, t2, t3, d1, d2, d3, bad]
  by_cases d4 : (S : Int) < y
  · left
    constructor <;> simp [t1, t2, t3, t4, d1, d2, d3, d4, bad]
  right
  simp only [t1, t2, t3, t4, d1, d2, d3, d4, if_true, if_false, not_false_eq_true, Option.bind]
  obtain ⟨a, ha⟩ : ∃ a : Nat, x = (a : Int) := ⟨x.toNat, by omega⟩
  obtain ⟨b, hb⟩ : ∃ b : Nat, y = (b : Int) := ⟨y.toNat, by omega⟩
  subst ha; subst hb
  obtain ⟨vf, k1, k2⟩ := t_mf_cut N (p_I pc) h2 (to := b) (by omega) (p_I a) (b - a) N a false free v_wfree (by omega) (by omega) h7
  obtain ⟨vmf, l1, l2⟩ := r_door_cut N vit vle vmo c2 c3 c4 c5 (p_I pc) h2 (to := b) (by omega) (p_I a) hp (b - a) N a false free v_mfree (by omega) (by omega) h8
  unfold f_Wall_makeFree
  rw [k1, l1]
  simp only [Bool.false_or]
  unfold f_RoomFills_news
  generalize hr : ww_any (fun k => !(free k)) (b - a) a = r
  refine ⟨r, vf, vmf, fun k => free k || (decide (a ≤ k) && decide (k < b)), ?_, rfl, ⟨rfl, rfl, h1, h2, rfl, rfl, h5, h6, k2, l2⟩, ?_⟩
  · cases r <;> rfl
  · intro hr0
    funext k
    cases hk : free k with
    | true => rfl
    | false =>
      rw [Bool.false_or]
      by_cases c : a ≤ k ∧ k < b
      · rw [hr0] at hr
        have := (ww_any_iff (fun k => !(free k)) (b - a) a).2 ⟨k, c.1, by omega, by rw [hk]; rfl⟩
        rw [hr] at this; cases this
      · by_cases c1 : a ≤ k
        · rw [decide_eq_false (p := k < b) (by omega), Bool.and_false]
        · rw [decide_eq_false c1, Bool.false_and]
