theorem p_sum_ext {g g' : Nat → Int} {s : Nat} (h : ∀ k, k < 6 → Nat.testBit s k = true → g k = g' k) : p_sum g s = p_sum g' s := by
  have e : ∀ k, k < 6 → (if Nat.testBit s k = true then g k else 0) = (if Nat.testBit s k = true then g' k else 0) := by
    intro k hk
    by_cases c : Nat.testBit s k = true
    · rw [if_pos c, if_pos c, h k hk c]
    · rw [if_neg c, if_neg c]
  unfold p_sum
  rw [e 0 (by omega), e 1 (by omega), e 2 (by omega), e 3 (by omega), e 4 (by omega), e 5 (by omega)]
theorem p_tbn : ∀ o : Nat, o < 64 → ∀ n : Nat, n < 6 → o < 2 ^ n → Nat.testBit o n = false := by decide +kernel
theorem p_2d : ∀ n : Nat, n < 6 → 2 ^ (n + 1) = 2 ^ n + 2 ^ n ∧ 2 ^ n ≤ 32 := by decide
theorem p_sum_new (g : Nat → Int) {n : Nat} (hn : n < 6) (x : Int) {o : Nat} (ho : o < 2 ^ n) : p_sum (fun k => if k = n then x else g k) o = p_sum g o ∧ p_sum (fun k => if k = n then x else g k) (2 ^ n + o) = p_sum g o + x := by
  obtain ⟨d1, d2⟩ := p_2d n hn
  have hb := p_tbn o (by omega) n hn ho
  have e1 : p_sum (fun k => if k = n then x else g k) o = p_sum g o := by
    refine p_sum_ext (fun k hk hkb => ?_)
    by_cases c : k = n
    · subst c; rw [hb] at hkb; cases hkb
    · exact if_neg c
  obtain ⟨b1, b2, b3⟩ := p_b2 o (by omega) n hn hb
  refine ⟨e1, ?_⟩
  rw [Nat.add_comm, p_sum_cl _ b1 hn b3, p_addsub, e1, if_pos rfl]
theorem t_add_cut (N : Nat) (vms : Int32) {n : Nat} (hn : n < 6) {w : Nat → Nat} {wo co : Nat → Int} (wd : Nat) (x y : Int) (iw ie : Nat → Int32) :
    ∀ d m e : Nat, ∀ (v1 : Nat → Int32) (v2 v3 : Nat → Int64), e + d = 2 ^ n → d < m → (∀ s, s < 2 ^ n → v1 s = p_I (p_sum (fun k => (w k : Int)) s) ∧ v2 s = p_J (p_sum wo s) ∧ v3 s = p_J (p_sum co s)) → (∀ o, o < e → v1 (2 ^ n + o) = p_I (p_sum (fun k => (w k : Int)) o + wd) ∧ v2 (2 ^ n + o) = p_J (p_sum wo o + x) ∧ v3 (2 ^ n + o) = p_J (p_sum co o + y)) →
    ∃ v1' v2' v3', f_Items_add_cut N 6 6 64 64 64 vms m 0 (p_I wd) (p_J x) (p_J y) (p_I n) (p_I ((2 ^ n : Nat) : Int)) (p_I e) (p_I n) iw ie v1 v2 v3 = some (p_I n, p_I ((n + 1 : Nat) : Int), iw, ie, v1', v2', v3') ∧ (∀ s, s < 2 ^ n → v1' s = p_I (p_sum (fun k => (w k : Int)) s) ∧ v2' s = p_J (p_sum wo s) ∧ v3' s = p_J (p_sum co s)) ∧ (∀ o, o < 2 ^ n → v1' (2 ^ n + o) = p_I (p_sum (fun k => (w k : Int)) o + wd) ∧ v2' (2 ^ n + o) = p_J (p_sum wo o + x) ∧ v3' (2 ^ n + o) = p_J (p_sum co o + y))
  | 0, m + 1, e, v1, v2, v3, h, _, h1, h2 => by
    obtain ⟨d1, d2⟩ := p_2d n hn
    refine ⟨v1, v2, v3, ?_, h1, fun o ho => h2 o (by omega)⟩
    rw [f_Items_add_cut_0, if_pos (by rw [p_Ile] <;> omega), p_up]
  | d + 1, m + 1, e, v1, v2, v3, h, hm, h1, h2 => by
    obtain ⟨d1, d2⟩ := p_2d n hn
    have j1 := p_inx (k := e) (n := 64) (by omega) (by omega)
    have j2 := p_inx (k := 2 ^ n + e) (n := 64) (by omega) (by omega)
    obtain ⟨q1, q2, q3⟩ := h1 e (by omega)
    obtain ⟨v1', v2', v3', k1, k2, k3⟩ := t_add_cut N vms hn (w := w) (wo := wo) (co := co) wd x y iw ie d m (e + 1) (upd v1 (2 ^ n + e) (p_I (p_sum (fun k => (w k : Int)) e + wd))) (vp_updL v2 (2 ^ n + e) (p_J (p_sum wo e + x))) (vp_updL v3 (2 ^ n + e) (p_J (p_sum co e + y))) (by omega) (by omega) (by
      intro s hs
      rw [p_u, p_uL, p_uL, if_neg (by omega), if_neg (by omega), if_neg (by omega)]
      exact h1 s hs) (by
      intro o ho
      rw [p_u, p_uL, p_uL]
      by_cases c : o = e
      · subst c; rw [if_pos rfl, if_pos rfl, if_pos rfl]; exact ⟨rfl, rfl, rfl⟩
      · rw [if_neg (by omega), if_neg (by omega), if_neg (by omega)]; exact h2 o (by omega))
    refine ⟨v1', v2', v3', ?_, k2, k3⟩
    rw [f_Items_add_cut_0, if_neg (by rw [p_Ile] <;> omega)]
    simp only [p_addN, p_ix e (show e < 2147483648 by omega), p_ix (2 ^ n + e) (show 2 ^ n + e < 2147483648 by omega), j1, j2, if_false, q1, q2, q3, p_up]
    rw [p_Iadd, p_Jadd, p_Jadd]
    exact k1
theorem zz_item (N : Nat) (hN : 30000 ≤ N) (c1 vst vpi vle vmo c2 c3 : Int32) (c4 c5 : Int64) (hp : Bool) {n : Nat} {w : Nat → Nat} {need : Nat → Int} {wo co : Nat → Int} {vn : Int32} {v_iwid v_inee v_iswi : Nat → Int32} {v_iswo v_isce : Nat → Int64} {mn : Int32} {v_mwid v_mnee : Nat → Int32} {v_mwor v_mcen : Nat → Int64} (hz : z_item n w need wo co vn v_iwid v_inee v_iswi v_iswo v_isce mn v_mwid v_mnee v_mwor v_mcen) (tc vms p1 : Int32) (p2 p3 : Int64) :
    (∃ e : Nat, (e = 1 ∨ e = 2) ∧ f_RoomFills_item N 6 6 64 64 64 tc vms vn v_iwid v_inee v_iswi v_iswo v_isce p1 p2 p3 = some (e, 0, tc, vn, v_iwid, v_inee, v_iswi, v_iswo, v_isce) ∧ f_Model_item N 6 6 6 c1 vst vpi mn vle vmo hp c2 c3 c4 c5 v_mwid v_mwor v_mcen p1 p2 p3 = some (0, (if e = 1 then 1 else 2), mn, hp, v_mwid, v_mwor, v_mcen)) ∨
    (∃ vn' iw ie is iso isc mw mo mc w' need' wo' co', n < 6 ∧ f_RoomFills_item N 6 6 64 64 64 tc vms vn v_iwid v_inee v_iswi v_iswo v_isce p1 p2 p3 = some (0, p_I n, 0, vn', iw, ie, is, iso, isc) ∧ f_Model_item N 6 6 6 c1 vst vpi mn vle vmo hp c2 c3 c4 c5 v_mwid v_mwor v_mcen p1 p2 p3 = some (p_I n, 0, vn', false, mw, mo, mc) ∧ z_item (n + 1) w' need' wo' co' vn' iw ie is iso isc vn' mw v_mnee mo mc) := by
  obtain ⟨rfl, rfl, h1, h2, h3, h4, h5, h6, h7, h8⟩ := hz
  have hn := h1.1
  obtain ⟨a, rfl, g1, g2⟩ := p_al p1
  obtain ⟨x, rfl, g3, g4⟩ := p_alJ p2
  obtain ⟨y, rfl, g5, g6⟩ := p_alJ p3
  have t1 : p_I n < (6 : Int32) ↔ ¬ (n = 6) := by rw [p_6, p_Ilt] <;> omega
  have t1' : p_I n = (6 : Int32) ↔ n = 6 := by rw [p_6, p_Ieq] <;> omega
  have t2 : p_I a < (1 : Int32) ↔ a < 1 := by rw [p_1, p_Ilt] <;> omega
  have t3 : (20 : Int32) < p_I a ↔ 20 < a := by rw [show (20 : Int32) = p_I 20 by decide, p_Ilt] <;> omega
  have i1 : f_Model_isIn N (p_I a).toInt64 1 20 = some (decide (1 ≤ a) && decide (a ≤ 20)) := by
    rw [p_tol g1 g2, show (1 : Int64) = p_J 1 by decide, show (20 : Int64) = p_J 20 by decide]
    exact r_isIn N (by omega) (by omega) (b := 1) (by omega) (by omega) (c := 20) (by omega) (by omega)
  have i2 : f_Model_isIn N (p_J x) 0 100000 = some (decide (0 ≤ x) && decide (x ≤ 100000)) := by
    rw [p_J0, show (100000 : Int64) = p_J 100000 by decide]
    exact r_isIn N (by omega) (by omega) (b := 0) (by omega) (by omega) (c := 100000) (by omega) (by omega)
  have i3 : f_Model_isIn N (p_J y) 0 100000 = some (decide (0 ≤ y) && decide (y ≤ 100000)) := by
    rw [p_J0, show (100000 : Int64) = p_J 100000 by decide]
    exact r_isIn N (by omega) (by omega) (b := 0) (by omega) (by omega) (c := 100000) (by omega) (by omega)
  have d1 : ¬ ((1 : Int32) ≤ 0) := by decide
  have d2 : ¬ ((2 : Int32) ≤ 0) := by decide
  have d0 : (0 : Int32) ≤ 0 := by decide
  unfold f_RoomFills_item f_Model_item f_Model_change
  rw [i1, i2, i3, t_money N g3 g4, t_money N g5 g6]
  by_cases e1 : n = 6
  · left
    have t1f : ¬ (p_I n < (6 : Int32)) := fun q => (t1.1 q) e1
    have t1t : p_I n = (6 : Int32) := t1'.2 e1
    refine ⟨1, Or.inl rfl, by simp [t1f], ?_⟩
    cases (decide (1 ≤ a) && decide (a ≤ 20)) <;> cases (decide (0 ≤ x) && decide (x ≤ 100000)) <;> cases (decide (0 ≤ y) && decide (y ≤ 100000)) <;> simp [t1t, d1]
  by_cases e2 : a < 1
  · left
    rw [decide_eq_false (p := 1 ≤ a) (by omega)]
    exact ⟨2, Or.inr rfl, by simp [t1, t2, e1, e2], by simp [t1', e1, d2]⟩
  by_cases e3 : 20 < a
  · left
    rw [decide_eq_false (p := a ≤ 20) (by omega)]
    exact ⟨2, Or.inr rfl, by simp [t1, t2, t3, e1, e2, e3], by simp [t1', e1, d2]⟩
  rw [decide_eq_true (p := 1 ≤ a) (by omega), decide_eq_true (p := a ≤ 20) (by omega)]
  by_cases e4 : 0 ≤ x ∧ x ≤ 100000
  · by_cases e5 : 0 ≤ y ∧ y ≤ 100000
    · right
      rw [decide_eq_true e4.1, decide_eq_true e4.2, decide_eq_true e5.1, decide_eq_true e5.2]
      obtain ⟨b, hb⟩ : ∃ b : Nat, a = (b : Int) := ⟨a.toNat, by omega⟩
      subst hb
      obtain ⟨d3, d4⟩ := p_2d n (by omega)
      obtain ⟨v1, v2, v3, k1, k2, k3⟩ := t_add_cut N vms (n := n) (by omega) b x y (upd v_iwid n (p_I b)) (upd v_inee n (-1)) (2 ^ n) N 0 v_iswi v_iswo v_isce (by omega) (by omega) h8 (fun o ho => by omega)
      have k1' : f_Items_add_cut N 6 6 64 64 64 vms N 0 (p_I b) (p_J x) (p_J y) (p_I n) (p_I ((2 ^ n : Nat) : Int)) 0 (p_I n) (upd v_iwid n (p_I b)) (upd v_inee n (-1)) v_iswi v_iswo v_isce = _ := k1
      have j1 := p_inx (k := n) (n := 6) (by omega) (by omega)
      refine ⟨p_I ((n + 1 : Nat) : Int), upd v_iwid n (p_I b), upd v_inee n (-1), v1, v2, v3, upd v_mwid n (p_I b), vp_updL v_mwor n (p_J x), vp_updL v_mcen n (p_J y), fun k => if k = n then b else w k, fun k => if k = n then -1 else need k, fun k => if k = n then x else wo k, fun k => if k = n then y else co k, by omega, ?_, ?_, ?_⟩
      · unfold f_Items_add f_RoomFills_news
        simp only [t1, t2, t3, e1, e2, e3, if_true, if_false, not_false_eq_true, Option.bind, Bool.and_self, p_ix n (show n < 2147483648 by omega), j1, p_bit n (by omega), k1']
      · simp only [t1', e1, if_true, if_false, Option.bind, Bool.and_self, d0, p_ix n (show n < 2147483648 by omega), j1, p_up]
        rw [p_1, p_Isub]
        simp
      · have up : ∀ (vw v : Nat → Int32), t_nee n w need vw v → v n = p_I (-1) → t_nee (n + 1) (fun k => if k = n then b else w k) (fun k => if k = n then -1 else need k) (upd vw n (p_I b)) v := by
          intro vw v hv hvn
          refine ⟨by omega, fun k hk => ?_⟩
          rw [p_u]
          by_cases ck : k = n
          · subst ck; simp only [if_true]; exact ⟨trivial, by omega, by omega, hvn, by omega, by omega⟩
          · simp only [if_neg ck]; exact hv.2 k (by omega)
        refine ⟨rfl, rfl, up _ _ ⟨hn, fun k hk => ?_⟩ (by rw [p_u, if_pos rfl]; rfl), up _ _ h2 (h3 n (Nat.le_refl _) (by omega)), fun k hk hk2 => h3 k (by omega) hk2, ?_, ?_, ?_, ?_, ?_⟩
        · obtain ⟨r1, r2, r3, r4, r5, r6⟩ := h1.2 k hk
          rw [p_u, if_neg (by omega)]; exact ⟨r1, r2, r3, r4, r5, r6⟩
        · intro k; simp only []; split
          · omega
          · exact h4 k
        · intro k; simp only []; split
          · omega
          · exact h5 k
        · intro k; simp only []; split
          · omega
          · exact h6 k
        · intro k hk
          rw [p_uL, p_uL]
          by_cases ck : k = n
          · subst ck; simp
          · simp only [if_neg ck]; exact h7 k (by omega)
        · intro s hs
          have ew : (fun k => (((fun k => if k = n then b else w k) k : Nat) : Int)) = (fun k => if k = n then (b : Int) else (w k : Int)) := by
            funext k; by_cases ck : k = n
            · simp [ck]
            · simp [ck]
          rw [ew]
          by_cases cs : s < 2 ^ n
          · rw [(p_sum_new (fun k => (w k : Int)) (by omega) (b : Int) cs).1, (p_sum_new wo (by omega) x cs).1, (p_sum_new co (by omega) y cs).1]
            exact k2 s cs
          · obtain ⟨o, ho⟩ : ∃ o, s = 2 ^ n + o := ⟨s - 2 ^ n, by omega⟩
            subst ho
            have ho : o < 2 ^ n := by omega
            rw [(p_sum_new (fun k => (w k : Int)) (by omega) (b : Int) ho).2, (p_sum_new wo (by omega) x ho).2, (p_sum_new co (by omega) y ho).2]
            exact k3 o ho
    · left
      have e7 : (decide (0 ≤ y) && decide (y ≤ 100000)) = false := by
        by_cases q : 0 ≤ y
        · rw [decide_eq_false (p := y ≤ 100000) (fun q2 => e5 ⟨q, q2⟩), Bool.and_false]
        · rw [decide_eq_false q, Bool.false_and]
      rw [e7, decide_eq_true e4.1, decide_eq_true e4.2]
      exact ⟨2, Or.inr rfl, by simp [t1, t2, t3, e1, e2, e3], by simp [t1', e1, d2]⟩
  · left
    have e7 : (decide (0 ≤ x) && decide (x ≤ 100000)) = false := by
      by_cases q : 0 ≤ x
      · rw [decide_eq_false (p := x ≤ 100000) (fun q2 => e4 ⟨q, q2⟩), Bool.and_false]
      · rw [decide_eq_false q, Bool.false_and]
    rw [e7]
    exact ⟨2, Or.inr rfl, by simp [t1, t2, t3, e1, e2, e3], by simp [t1', e1, d2]⟩
