def ww_any (q : Nat → Bool) : Nat → Nat → Bool
  | 0, _ => false
  | d + 1, i => q i || ww_any q d (i + 1)
theorem ww_any_iff (q : Nat → Bool) : ∀ d i, ww_any q d i = true ↔ ∃ k, i ≤ k ∧ k < i + d ∧ q k = true
  | 0, i => by
    constructor
    · intro h; cases h
    · rintro ⟨k, h1, h2, -⟩; omega
  | d + 1, i => by
    show (q i || ww_any q d (i + 1)) = true ↔ _
    rw [Bool.or_eq_true, ww_any_iff q d (i + 1)]
    constructor
    · rintro (h | ⟨k, h1, h2, h3⟩)
      · exact ⟨i, Nat.le_refl _, by omega, h⟩
      · exact ⟨k, by omega, by omega, h3⟩
    · rintro ⟨k, h1, h2, h3⟩
      by_cases e : k = i
      · subst e; exact Or.inl h3
      · exact Or.inr ⟨k, by omega, by omega, h3⟩
theorem p_b6 : ∀ s : Nat, s < 64 → ∀ e : Nat, e < 6 → ∀ j : Nat, j < 6 → Nat.testBit (s ||| 2 ^ e) j = (Nat.testBit s j || j == e) := by decide +kernel

theorem t_sbf_cut (N S : Nat) (vpc : Int32) (free : Nat → Bool) (v_wfree : Nat → Int32) (hS : S ≤ 40) (hf : ∀ k, k < S → (v_wfree k = 0 ↔ free k = false)) :
    ∀ d n a e : Nat, e + d = S → d < n → f_Wall_stepsBeforeFree_cut N S (p_I S) vpc v_wfree n 0 (p_I a) (p_I e) = some (p_I ((e : Int) + (ww_op free d e : Int) - (a : Int)))
  | 0, n + 1, a, e, h, _ => by
    rw [f_Wall_stepsBeforeFree_cut_0, if_pos (by rw [p_Ile] <;> omega), p_Isub]
    simp [ww_op]
  | d + 1, n + 1, a, e, h, hn => by
    rw [f_Wall_stepsBeforeFree_cut_0, if_neg (by rw [p_Ile] <;> omega), if_neg (p_in (by omega) (by omega)), p_ix e (by omega)]
    by_cases hfe : free e = true
    · rw [if_neg (by rw [hf e (by omega), hfe]; decide), p_Isub]
      simp [ww_op, hfe]
    · rw [if_pos (by rw [hf e (by omega)]; simpa using hfe), p_up, t_sbf_cut N S vpc free v_wfree hS hf d n a (e + 1) (by omega) (by omega)]
      simp only [ww_op, if_neg hfe]
      congr 2
      omega
theorem t_sbf (N S : Nat) (vpc : Int32) (free : Nat → Bool) (v_wfree : Nat → Int32) (hS : S ≤ 40) (hf : ∀ k, k < S → (v_wfree k = 0 ↔ free k = false)) (hN : 30000 ≤ N) {a : Nat} (ha : a ≤ S) :
    f_Wall_stepsBeforeFree N S (p_I S) vpc v_wfree (p_I a) = some (p_I (ww_op free (S - a) a)) := by
  unfold f_Wall_stepsBeforeFree
  rw [t_sbf_cut N S vpc free v_wfree hS hf (S - a) N a a (by omega) (by omega)]
  congr 2
  omega

def ww_pq (pp : Nat → Int) (lo hi : Int) (k : Nat) : Bool := decide (lo ≤ pp k) && decide (pp k ≤ hi)
theorem t_hpw_cut (N : Nat) (vs : Int32) (pc : Nat) (pp : Nat → Int) (v_wpip : Nat → Int32) (hpc : pc ≤ 8) (hp : ∀ k, k < pc → v_wpip k = p_I (pp k) ∧ 0 ≤ pp k ∧ pp k < 40) {bg w mo : Int} (hb : -200 ≤ bg ∧ bg ≤ 200) (hw : 0 ≤ w ∧ w ≤ 20) (hm : -1 ≤ mo ∧ mo ≤ 40) :
    ∀ d n e : Nat, e + d = pc → d < n → f_Wall_hasPipeWithin_cut N 8 vs (p_I pc) v_wpip n 0 (p_I bg) (p_I w) (p_I mo) (p_I e) = some (ww_any (ww_pq pp (bg - mo) (bg + w - 1 + mo)) d e)
  | 0, n + 1, e, h, _ => by
    rw [f_Wall_hasPipeWithin_cut_0, if_pos (by rw [p_Ile] <;> omega)]
    rfl
  | d + 1, n + 1, e, h, hn => by
    obtain ⟨h1, h2, h3⟩ := hp e (by omega)
    rw [f_Wall_hasPipeWithin_cut_0, if_neg (by rw [p_Ile] <;> omega), if_neg (p_in (by omega) (by omega)), if_neg (p_in (by omega) (by omega)), p_ix e (by omega), h1, p_up, t_hpw_cut N vs pc pp v_wpip hpc hp hb hw hm d n (e + 1) (by omega) (by omega), p_Isub, p_Iadd, p_1, p_Isub, p_Iadd]
    show _ = some (ww_pq pp (bg - mo) (bg + w - 1 + mo) e || _)
    by_cases c1 : pp e < bg - mo
    · rw [if_pos (by rw [p_Ilt] <;> omega)]
      have : ww_pq pp (bg - mo) (bg + w - 1 + mo) e = false := by
        unfold ww_pq; rw [decide_eq_false (by omega)]; rfl
      rw [this]; rfl
    · rw [if_neg (by rw [p_Ilt] <;> omega)]
      by_cases c2 : bg + w - 1 + mo < pp e
      · rw [if_pos (by rw [p_Ilt] <;> omega)]
        have : ww_pq pp (bg - mo) (bg + w - 1 + mo) e = false := by
          unfold ww_pq; rw [decide_eq_false (p := pp e ≤ _) (by omega), Bool.and_false]
        rw [this]; rfl
      · rw [if_neg (by rw [p_Ilt] <;> omega)]
        have : ww_pq pp (bg - mo) (bg + w - 1 + mo) e = true := by
          unfold ww_pq; rw [decide_eq_true (by omega), decide_eq_true (by omega)]; rfl
        rw [this]; rfl
theorem t_hpw (N : Nat) (hN : 30000 ≤ N) (vs : Int32) (pc : Nat) (pp : Nat → Int) (v_wpip : Nat → Int32) (hpc : pc ≤ 8) (hp : ∀ k, k < pc → v_wpip k = p_I (pp k) ∧ 0 ≤ pp k ∧ pp k < 40) {bg w mo : Int} (hb : -200 ≤ bg ∧ bg ≤ 200) (hw : 0 ≤ w ∧ w ≤ 20) (hm : -1 ≤ mo ∧ mo ≤ 40) :
    f_Wall_hasPipeWithin N 8 vs (p_I pc) v_wpip (p_I bg) (p_I w) (p_I mo) = some (ww_any (ww_pq pp (bg - mo) (bg + w - 1 + mo)) pc 0) := by
  unfold f_Wall_hasPipeWithin
  exact t_hpw_cut N vs pc pp v_wpip hpc hp hb hw hm pc N 0 (by omega) (by omega)
def ww_met (pc : Nat) (pp : Nat → Int) (w : Nat → Nat) (need : Nat → Int) (k : Nat) (bg : Int) : Bool := decide (need k = -1) || ww_any (ww_pq pp (bg - need k) (bg + w k - 1 + need k)) pc 0
def t_pip (pc : Nat) (pp : Nat → Int) (v_wpip : Nat → Int32) : Prop := pc ≤ 8 ∧ ∀ k, k < pc → v_wpip k = p_I (pp k) ∧ 0 ≤ pp k ∧ pp k < 40
def t_nee (n : Nat) (w : Nat → Nat) (need : Nat → Int) (v_iwid v_inee : Nat → Int32) : Prop := n ≤ 6 ∧ ∀ k, k < n → v_iwid k = p_I (w k) ∧ 1 ≤ w k ∧ w k ≤ 20 ∧ v_inee k = p_I (need k) ∧ -1 ≤ need k ∧ need k ≤ 40
theorem t_met (N : Nat) (hN : 30000 ≤ N) (vs vms : Int32) (n pc : Nat) (pp : Nat → Int) (w : Nat → Nat) (need : Nat → Int) (v_wpip v_iwid v_inee : Nat → Int32) (hp : t_pip pc pp v_wpip) (hi : t_nee n w need v_iwid v_inee) {bg : Int} (hb : -200 ≤ bg ∧ bg ≤ 200) {k : Nat} (hk : k < n) :
    f_Items_isNeedMet N 8 6 6 vs (p_I pc) v_wpip vms (p_I n) v_iwid v_inee (p_I k) (p_I bg) = some (ww_met pc pp w need k bg) := by
  obtain ⟨hpc, hp⟩ := hp
  obtain ⟨hn, hi⟩ := hi
  obtain ⟨h1, h2, h3, h4, h5, h6⟩ := hi k hk
  unfold f_Items_isNeedMet
  rw [if_neg (p_in (by omega) (by omega)), if_neg (p_in (by omega) (by omega)), p_ix k (by omega), h1, h4]
  by_cases c : need k = -1
  · rw [if_pos (by rw [c]; decide)]
    unfold ww_met
    rw [decide_eq_true c]; rfl
  · rw [if_neg (by rw [p_m1, p_Ieq] <;> omega), if_neg (p_inx (by omega) (by omega)), t_hpw N hN vs pc pp v_wpip hpc hp hb (by omega) (by omega)]
    unfold ww_met
    rw [decide_eq_false c, Bool.false_or]
    simp only [Option.bind]
    split
    · rename_i h; rw [h]
    · rename_i h; simp only [Bool.not_eq_true] at h; rw [h]
theorem t_has (N : Nat) {s k : Nat} (hs : s < 64) (hk : k < 8) : f_RoomFills_hasItem N (p_I s) (p_I k) = some (Nat.testBit s k) := by
  unfold f_RoomFills_hasItem
  rw [p_bit k hk]
  cases h : Nat.testBit s k with
  | false => rw [if_pos ((p_has s hs k hk).2 h)]
  | true => rw [if_neg (fun g => by rw [(p_has s hs k hk).1 g] at h; cases h)]
theorem t_fit_cut (N : Nat) (hN : 30000 ≤ N) (vs vms : Int32) (n pc : Nat) (pp : Nat → Int) (w : Nat → Nat) (need : Nat → Int) (v_wpip v_iwid v_inee : Nat → Int32) (hp : t_pip pc pp v_wpip) (hi : t_nee n w need v_iwid v_inee) {a : Nat} (ha : a ≤ 40) {op : Nat} (hop : op ≤ 40) :
    ∀ d m e s : Nat, e + d = n → d < m → s < 64 → (∀ k, k < 6 → Nat.testBit s k = (decide (k < e) && (decide (w k ≤ op) && ww_met pc pp w need k a))) →
    ∃ fs : Nat, f_Table_itemsThatFit_cut N 8 6 6 vs (p_I pc) v_wpip vms (p_I n) v_iwid v_inee m 0 (p_I a) (p_I op) (p_I s) (p_I e) = some (p_I fs) ∧ fs < 64 ∧ ∀ k, k < 6 → Nat.testBit fs k = (decide (k < n) && (decide (w k ≤ op) && ww_met pc pp w need k a))
  | 0, m + 1, e, s, h, _, hs, hb => by
    have hn := hi.1
    refine ⟨s, ?_, hs, ?_⟩
    · rw [f_Table_itemsThatFit_cut_0, if_pos (by rw [p_Ile] <;> omega)]
    · rw [show n = e by omega]; exact hb
  | d + 1, m + 1, e, s, h, hm, hs, hb => by
    have hn := hi.1
    obtain ⟨h1, h2, h3, -⟩ := hi.2 e (by omega)
    rw [f_Table_itemsThatFit_cut_0, if_neg (by rw [p_Ile] <;> omega), if_neg (p_in (by omega) (by omega)), p_ix e (by omega), h1, t_met N hN vs vms n pc pp w need v_wpip v_iwid v_inee hp hi (by omega) (by omega), p_up]
    by_cases c1 : op < w e
    · rw [if_pos (by rw [p_Ilt] <;> omega)]
      refine t_fit_cut N hN vs vms n pc pp w need v_wpip v_iwid v_inee hp hi ha hop d m (e + 1) s (by omega) (by omega) hs ?_
      intro k hk
      rw [hb k hk]
      by_cases ce : k = e
      · subst ce
        rw [decide_eq_false (p := w k ≤ op) (by omega)]
        simp
      · rw [show decide (k < e + 1) = decide (k < e) from decide_eq_decide.2 (by omega)]
    · rw [if_neg (by rw [p_Ilt] <;> omega)]
      simp only [Option.bind]
      split
      · rename_i c2
        rw [p_bit e (by omega), p_or s hs e (by omega)]
        refine t_fit_cut N hN vs vms n pc pp w need v_wpip v_iwid v_inee hp hi ha hop d m (e + 1) (s ||| 2 ^ e) (by omega) (by omega) (p_lt64 s hs _ (p_pw e (by omega))).1 ?_
        intro k hk
        rw [p_b6 s hs e (by omega) k hk, hb k hk]
        by_cases ce : k = e
        · subst ce
          rw [c2, decide_eq_true (p := w k ≤ op) (by omega)]
          simp
        · rw [show decide (k < e + 1) = decide (k < e) from decide_eq_decide.2 (by omega)]
          simp [ce]
      · rename_i c2
        refine t_fit_cut N hN vs vms n pc pp w need v_wpip v_iwid v_inee hp hi ha hop d m (e + 1) s (by omega) (by omega) hs ?_
        intro k hk
        rw [hb k hk]
        by_cases ce : k = e
        · subst ce
          simp only [Bool.not_eq_true] at c2
          rw [c2]
          simp
        · rw [show decide (k < e + 1) = decide (k < e) from decide_eq_decide.2 (by omega)]
theorem t_fit (N : Nat) (hN : 30000 ≤ N) (vs vms : Int32) (n pc : Nat) (pp : Nat → Int) (w : Nat → Nat) (need : Nat → Int) (v_wpip v_iwid v_inee : Nat → Int32) (hp : t_pip pc pp v_wpip) (hi : t_nee n w need v_iwid v_inee) {a : Nat} (ha : a ≤ 40) {op : Nat} (hop : op ≤ 40) :
    ∃ fs : Nat, f_Table_itemsThatFit N 8 6 6 vs (p_I pc) v_wpip vms (p_I n) v_iwid v_inee (p_I a) (p_I op) = some (p_I fs) ∧ fs < 64 ∧ ∀ k, k < 6 → Nat.testBit fs k = (decide (k < n) && (decide (w k ≤ op) && ww_met pc pp w need k a)) := by
  have hn := hi.1
  unfold f_Table_itemsThatFit
  refine t_fit_cut N hN vs vms n pc pp w need v_wpip v_iwid v_inee hp hi ha hop n N 0 0 (by omega) (by omega) (by omega) ?_
  intro k hk
  simp
