theorem z_cls {n : Nat} {nw : Nat → Nat → Int} {bar : Nat → Nat → Bool} {v_ibar : Nat → Int32} {v_inea v_mnea : Nat → Int64} {v_mbar : Nat → Int32} (hz : z_pair n nw bar v_ibar v_inea v_mnea v_mbar) : t_cls n nw bar v_ibar v_inea := ⟨hz.1, hz.2.2.1, hz.2.2.2.2.1, hz.2.2.2.2.2.1⟩
theorem z_ref {n : Nat} {w : Nat → Nat} {need : Nat → Int} {wo co : Nat → Int} {vn : Int32} {v_iwid v_inee v_iswi : Nat → Int32} {v_iswo v_isce : Nat → Int64} {mn : Int32} {v_mwid v_mnee : Nat → Int32} {v_mwor v_mcen : Nat → Int64} {nw : Nat → Nat → Int} {bar : Nat → Nat → Bool} {v_ibar : Nat → Int32} {v_inea v_mnea : Nat → Int64} {v_mbar : Nat → Int32} (hi : z_item n w need wo co vn v_iwid v_inee v_iswi v_iswo v_isce mn v_mwid v_mnee v_mwor v_mcen) (hz : z_pair n nw bar v_ibar v_inea v_mnea v_mbar) : r_ref n wo co nw bar v_mwor v_mcen v_mnea v_mbar := by
  obtain ⟨-, -, h1, h2, h3, h4, h5, h6, h7, h8⟩ := hi
  obtain ⟨q1, q2, q3, q4, q5, q6, q7⟩ := hz
  refine ⟨q1, h7, fun b k hb hk => q7 b k hb (by omega), fun k => ?_, h5, h6, q3⟩
  have g6 := q4 k 6 (by omega)
  have g7 := q4 k 7 (by omega)
  exact ⟨g6.1, g7.1, g6.2, g7.2⟩
section
variable {N : Nat} {S pc : Nat} {pp : Nat → Int} {free : Nat → Bool} {ws wp : Int32} {v_wfree v_wpip : Nat → Int32} {ms mp : Int32} {v_mfree v_mpip : Nat → Int32}
  {n : Nat} {w : Nat → Nat} {need : Nat → Int} {wo co : Nat → Int} {vn : Int32} {v_iwid v_inee v_iswi : Nat → Int32} {v_iswo v_isce : Nat → Int64} {mn : Int32} {v_mwid v_mnee : Nat → Int32} {v_mwor v_mcen : Nat → Int64}
  {nw : Nat → Nat → Int} {bar : Nat → Nat → Bool} {v_ibar : Nat → Int32} {v_inea v_mnea : Nat → Int64} {v_mbar : Nat → Int32} {M : Nat} {vms : Int32} {v_mmus : Nat → Int32} {least most : Nat} {fl fm ml mm : Int32}
theorem z_tell (hN : 30000 ≤ N) (hw : z_wall S pc pp free ws wp v_wfree v_wpip ms mp v_mfree v_mpip) (hi : z_item n w need wo co vn v_iwid v_inee v_iswi v_iswo v_isce mn v_mwid v_mnee v_mwor v_mcen) (hz : z_pair n nw bar v_ibar v_inea v_mnea v_mbar) (hmu : z_must n M vms v_mmus) (hf : z_fil least most fl fm ml mm)
    {td : List Nat} (htd : ∀ t, t ∈ td → t < 64) (htl : td.length < 16) {v_told v_mtol : Nat → Int32} (hto : ww_en td v_told 0) (hmto : ww_en td v_mtol 0) {T : Nat → Nat → Nat → Int} {v_tval : Nat → Int64} {v_tfit v_tlon : Nat → Int32} (htb : t_tb S v_tval T) (hV : ∀ a l b, a ≤ S → l < 64 → b < 8 → ww_V S n free w (fun k q => ww_met pc pp w need k q) nw bar least most a l b (T a l b)) (hff : ∀ a, a < S → free a = false → ww_ff S n free w (fun k q => ww_met pc pp w need k q) most v_tfit v_tlon a) {ul : Int} (hul : 0 ≤ ul ∧ ul ≤ 6)
    (pcnt ptc pis : Int32) (pww pwc : Int64) (ppi ppb pps ptb pts pbo : Nat → Int32) (tn : Int32) (bw bc : Int64) (va vb : Int32) (vt : Nat → Int32) (c1 : Int32) (hp : Bool) (mpc : Int32) (mpw mpcn : Int64) (v u : Nat → Int64) (vE vc um mpi mpa mps : Nat → Int32) :
    ∃ tn' bw' bc' va' vb' vt' v' u' vE' vc' um',
    (∃ pcnt' ptc' pis' pww' pwc' ppi' ppb' pps' ptb' pts' pbo' told' mtol' mpi' mpa' mps', f_RoomFills_tellPlan N 16 S 6 8 64 64 64 ((S + 1) * 512) S S 40 40 40 40 40 6 64 (p_I td.length) v_told ws wp v_wfree vms vn v_iwid v_ibar v_inea v_iswo v_isce fl fm v_tval v_tfit v_tlon pcnt ptc pis pww pwc ppi ppb pps ptb pts pbo tn bw bc va vb vt (p_I ul) = some (pcnt', p_I ((td.length + 1 : Nat) : Int), told', pcnt', ptc', pis', pww', pwc', ppi', ppb', pps', ptb', pts', pbo', tn', bw', bc', va', vb', vt') ∧
      f_Model_find N 41 8 6 6 6 6 6 36 36 20992 20992 64 42 246 16 41 41 41 c1 ms mp mn ml mm hp (p_I td.length) mpc mpw mpcn v_mfree v_mpip v_mwid v_mwor v_mcen v_mnee v_mmus v_mnea v_mbar v u vE vc um v_mtol mpi mpa mps (p_I ul) = some (true, p_I ((td.length + 1 : Nat) : Int), pcnt', pww', pwc', v', u', vE', vc', um', mtol', mpi', mpa', mps') ∧
      z_pl S n free w (fun k q => ww_met pc pp w need k q) nw bar least most true (p_I ((td.length + 1 : Nat) : Int)) told' v_tval v_tfit v_tlon pcnt' ptc' pis' pww' pwc' ppi' ppb' pps' ptb' pts' pbo' (p_I ((td.length + 1 : Nat) : Int)) pcnt' pww' pwc' mtol' mpi' mpa' mps') ∨
    (f_RoomFills_tellPlan N 16 S 6 8 64 64 64 ((S + 1) * 512) S S 40 40 40 40 40 6 64 (p_I td.length) v_told ws wp v_wfree vms vn v_iwid v_ibar v_inea v_iswo v_isce fl fm v_tval v_tfit v_tlon pcnt ptc pis pww pwc ppi ppb pps ptb pts pbo tn bw bc va vb vt (p_I ul) = some (-1, p_I td.length, v_told, pcnt, ptc, pis, pww, pwc, ppi, ppb, pps, ptb, pts, pbo, tn', bw', bc', va', vb', vt') ∧
      f_Model_find N 41 8 6 6 6 6 6 36 36 20992 20992 64 42 246 16 41 41 41 c1 ms mp mn ml mm hp (p_I td.length) mpc mpw mpcn v_mfree v_mpip v_mwid v_mwor v_mcen v_mnee v_mmus v_mnea v_mbar v u vE vc um v_mtol mpi mpa mps (p_I ul) = some (false, p_I td.length, mpc, mpw, mpcn, v', u', vE', vc', um', v_mtol, mpi, mpa, mps)) := by
  have href := z_ref hi hz
  have hcls := z_cls hz
  obtain ⟨rfl, rfl, w1, w2, rfl, rfl, w5, w6, w7, w8⟩ := hw
  obtain ⟨rfl, rfl, i1, i2, i3, i4, i5, i6, i7, i8⟩ := hi
  obtain ⟨rfl, m1, m2⟩ := hmu
  obtain ⟨f1, f2, f3, rfl, rfl, rfl, rfl⟩ := hf
  have hn := i1.1
  have h64 := p_2n n (by omega)
  have hmus : ∀ k, k < n → (v_mmus k = 0 ↔ Nat.testBit M k = false) := by
    intro k hk
    rw [m2 k (by omega)]
    cases Nat.testBit M k <;> decide
  obtain ⟨v', u', vE', vc', um', henv, hyes, hno⟩ := r_find N hN c1 hp mpc mpw mpcn pp ⟨w1, w2⟩ href w6 i2 ⟨f1, f2⟩ f3 w8 hmus htd htl hmto hul v u vE vc um mpi mpa mps
  have hBB : ∀ a b U, a ≤ S → b < 8 → U < 2 ^ n → ww_B S n free w (fun k q => ww_met pc pp w need k q) nw bar least most wo co (ww_mE n M ul td) a b U (r_Bw v' a b U) (r_Bw u' a b U) := fun a b U q1 q2 q3 => r_B N henv a b U q1 q2 q3
  have hte : t_env N S n free w (fun k q => ww_met pc pp w need k q) nw bar least most T v_iwid v_ibar v_inea v_tval v_tfit v_tlon := ⟨hN, w2, hcls, hz.2.1, fun k hk => ⟨(i1.2 k hk).1, (i1.2 k hk).2.1, (i1.2 k hk).2.2.1⟩, ⟨f1, f2⟩, f3, htb, hV, hff⟩
  obtain ⟨Lt, vt1, bw1, bc1, k1, k2⟩ := t_choose N hN w2 hn htb hV i5 i6 (fun s hs => ⟨(i8 s hs).2.1, (i8 s hs).2.2⟩) m1 hul htd (by omega) hto tn bw bc va vb vt (Bw := r_Bw v') (Bc := r_Bw u') (hBB 0 7 0 (by omega) (by omega) (Nat.pow_pos (by omega)))
  by_cases c : 0 ≤ r_Bw v' 0 7 0
  · obtain ⟨e1, e2, e3⟩ := k2 c
    obtain ⟨m, L, U', p1, p2⟩ := ww_path_ex hn (fun k hk => (i1.2 k hk).2.1) f1 hBB S 0 7 0 (by omega) (by omega) (by omega) (Nat.pow_pos (by omega)) c
    obtain ⟨vi', va1, vs', l1, l2⟩ := hyes m L U' c p1 (by omega)
    obtain ⟨cnt', tc', is', ppi', ppb', pps', ptb', pts', pbo', tn', at', bf', vt', j1, j2⟩ := ww_lay hte hBB w7 (p_I pc) (p_I M) pww pwc bw1 bc1 pcnt ptc pis ppi ppb pps ptb pts pbo va vb p1 (by omega) c e3
    obtain ⟨g1, g2⟩ := ww_path_lt hn (fun k hk => (i1.2 k hk).2.1) f1 m _ _ _ _ _ p1 (Nat.pow_pos (by omega))
    have g3 := g2 [] ⟨Nat.zero_le _, Nat.le_refl _, fun j q hq => by simp [ww_tops] at hq⟩
    rw [List.nil_append] at g3
    have hcnt := j2.1
    have his := j2.2.2.1
    subst hcnt; subst his
    refine ⟨tn', bw1, bc1, at', bf', vt', v', u', vE', vc', um', Or.inl ⟨p_I L.length, tc', p_I U', bw1, bc1, ppi', ppb', pps', ptb', pts', pbo', upd v_told td.length (p_I U'), upd v_mtol td.length (p_I U'), vi', va1, vs', ?_, ?_, ?_⟩⟩
    · unfold f_RoomFills_tellPlan
      rw [k1, decide_eq_true c]
      simp only [Option.bind, if_true]
      rw [j1]
      simp only []
      rw [if_neg (by rw [show (16 : Int32) = p_I 16 by decide, p_Ile] <;> omega), if_neg (p_in (by omega) (by omega)), p_ix _ (by omega), p_up]
    · rw [e1, e2]
      exact l1
    · have hmem : ∀ t, t ∈ td ++ [U'] → t < 64 := by
        intro t ht
        rcases List.mem_append.1 ht with q | q
        · exact htd t q
        · simp at q; subst q; omega
      have hll : (td ++ [U']).length = td.length + 1 := by simp
      exact Or.inr ⟨rfl, td ++ [U'], L, U', T, by omega, by omega, by rw [hll], by rw [hll], hmem, ww_en_app hto U', ww_en_app hmto U', htb, hV, hff, j2, ww_path_uq hn m _ _ _ _ _ p1, ww_path_sz w2 i4 f3 m _ _ _ _ _ p1, by have := g3.1; omega, rfl, l2, rfl, rfl⟩
  · refine ⟨p_I Lt.length, bw1, bc1, va, vb, vt1, v', u', vE', vc', um', Or.inr ⟨?_, hno (by omega)⟩⟩
    unfold f_RoomFills_tellPlan
    rw [k1, decide_eq_false c]
    simp only [Option.bind]
    rfl
theorem z_run (hN : 30000 ≤ N) (hw : z_wall S pc pp free ws wp v_wfree v_wpip ms mp v_mfree v_mpip) (hi : z_item n w need wo co vn v_iwid v_inee v_iswi v_iswo v_isce mn v_mwid v_mnee v_mwor v_mcen) (hz : z_pair n nw bar v_ibar v_inea v_mnea v_mbar) (hmu : z_must n M vms v_mmus) (hf : z_fil least most fl fm ml mm)
    (tc : Int32) (v_told v_mtol : Nat → Int32) (v_tval : Nat → Int64) (v_tfit v_tlon : Nat → Int32)
    (pcnt ptc pis : Int32) (pww pwc : Int64) (ppi ppb pps ptb pts pbo : Nat → Int32) (tn : Int32) (bw bc : Int64) (va vb : Int32) (vt : Nat → Int32) (c1 : Int32) (hp : Bool) (mtold mpc : Int32) (mpw mpcn : Int64) (v u : Nat → Int64) (vE vc um mpi mpa mps : Nat → Int32) :
    ∃ r hp' tc' told' tval' tfit' tlon' pcnt' ptc' pis' pww' pwc' ppi' ppb' pps' ptb' pts' pbo' tn' bw' bc' va' vb' vt' mtold' mpc' mpw' mpcn' v' u' vE' vc' um' mtol' mpi' mpa' mps',
      f_RoomFills_run N 16 S 8 6 6 8 64 64 64 64 ((S + 1) * 512) S S 40 40 40 40 40 6 64 tc v_told ws wp v_wfree v_wpip vms vn v_iwid v_inee v_ibar v_inea v_iswi v_iswo v_isce fl fm v_tval v_tfit v_tlon pcnt ptc pis pww pwc ppi ppb pps ptb pts pbo tn bw bc va vb vt = some (r, tc', told', tval', tfit', tlon', pcnt', ptc', pis', pww', pwc', ppi', ppb', pps', ptb', pts', pbo', tn', bw', bc', va', vb', vt') ∧
      f_Model_run N 41 8 6 6 6 6 6 36 36 20992 20992 64 42 246 16 41 41 41 c1 ms mp mn ml mm hp mtold mpc mpw mpcn v_mfree v_mpip v_mwid v_mwor v_mcen v_mnee v_mmus v_mnea v_mbar v u vE vc um v_mtol mpi mpa mps = some (r, 0, hp', mtold', mpc', mpw', mpcn', v', u', vE', vc', um', mtol', mpi', mpa', mps') ∧
      z_pl S n free w (fun k q => ww_met pc pp w need k q) nw bar least most hp' tc' told' tval' tfit' tlon' pcnt' ptc' pis' pww' pwc' ppi' ppb' pps' ptb' pts' pbo' mtold' mpc' mpw' mpcn' mtol' mpi' mpa' mps' := by
  have hcls := z_cls hz
  obtain ⟨tval', T, tfit', tlon', a1, a2, a3, a4⟩ := t_fillV N S hN vms n pc pp free w need nw bar least most v_wfree v_wpip v_inee v_iwid v_ibar v_inea v_iswi hw.2.2.2.2.2.2.2.2.1 hw.2.2.2.2.2.2.1 hi.2.2.1 hcls hi.2.2.2.2.2.1 (fun s hs => (hi.2.2.2.2.2.2.2.2.2 s hs).1) ⟨hf.1, hf.2.1⟩ hf.2.2.1 hw.2.2.2.1 v_tval v_tfit v_tlon
  obtain ⟨tn', bw', bc', va', vb', vt', v', u', vE', vc', um', hres⟩ := z_tell hN hw hi hz hmu hf (td := []) (fun t ht => by cases ht) (by simp) (v_told := v_told) (v_mtol := v_mtol) (fun j x hj => by simp at hj) (fun j x hj => by simp at hj) a2 a3 a4 (ul := 0) (by omega) pcnt ptc pis pww pwc ppi ppb pps ptb pts pbo tn bw bc va vb vt 0 hp mpc mpw mpcn v u vE vc um mpi mpa mps
  have a1' : f_Table_fill N S 8 6 6 8 64 64 ((S + 1) * 512) S S ws wp v_wfree v_wpip vms vn v_iwid v_inee v_ibar v_inea v_iswi fl fm v_tval v_tfit v_tlon = some (tval', tfit', tlon') := by
    rw [hw.1, hw.2.2.2.2.1, hi.1, hf.2.2.2.1, hf.2.2.2.2.1]; exact a1
  rcases hres with ⟨pcnt', ptc', pis', pww', pwc', ppi', ppb', pps', ptb', pts', pbo', told', mtol', mpi', mpa', mps', b1, b2, b3⟩ | ⟨b1, b2⟩
  · refine ⟨pcnt', true, p_I 1, told', tval', tfit', tlon', pcnt', ptc', pis', pww', pwc', ppi', ppb', pps', ptb', pts', pbo', tn', bw', bc', va', vb', vt', p_I 1, pcnt', pww', pwc', v', u', vE', vc', um', mtol', mpi', mpa', mps', ?_, ?_, b3⟩
    · unfold f_RoomFills_run
      rw [a1']
      simp only [Option.bind]
      have b1' : f_RoomFills_tellPlan N 16 S 6 8 64 64 64 ((S + 1) * 512) S S 40 40 40 40 40 6 64 0 v_told ws wp v_wfree vms vn v_iwid v_ibar v_inea v_iswo v_isce fl fm tval' tfit' tlon' pcnt ptc pis pww pwc ppi ppb pps ptb pts pbo tn bw bc va vb vt 0 = _ := b1
      rw [b1']
      rfl
    · unfold f_Model_run
      have b2' : f_Model_find N 41 8 6 6 6 6 6 36 36 20992 20992 64 42 246 16 41 41 41 0 ms mp mn ml mm hp 0 mpc mpw mpcn v_mfree v_mpip v_mwid v_mwor v_mcen v_mnee v_mmus v_mnea v_mbar v u vE vc um v_mtol mpi mpa mps 0 = _ := b2
      rw [b2']
      rfl
  · refine ⟨-1, false, 0, v_told, tval', tfit', tlon', pcnt, ptc, pis, pww, pwc, ppi, ppb, pps, ptb, pts, pbo, tn', bw', bc', va', vb', vt', 0, mpc, mpw, mpcn, v', u', vE', vc', um', v_mtol, mpi, mpa, mps, ?_, ?_, Or.inl ⟨rfl, rfl⟩⟩
    · unfold f_RoomFills_run
      rw [a1']
      simp only [Option.bind]
      have b1' : f_RoomFills_tellPlan N 16 S 6 8 64 64 64 ((S + 1) * 512) S S 40 40 40 40 40 6 64 0 v_told ws wp v_wfree vms vn v_iwid v_ibar v_inea v_iswo v_isce fl fm tval' tfit' tlon' pcnt ptc pis pww pwc ppi ppb pps ptb pts pbo tn bw bc va vb vt 0 = _ := b1
      rw [b1']
      rfl
    · unfold f_Model_run
      have b2' : f_Model_find N 41 8 6 6 6 6 6 36 36 20992 20992 64 42 246 16 41 41 41 0 ms mp mn ml mm hp 0 mpc mpw mpcn v_mfree v_mpip v_mwid v_mwor v_mcen v_mnee v_mmus v_mnea v_mbar v u vE vc um v_mtol mpi mpa mps 0 = _ := b2
      rw [b2']
      rfl
theorem z_variant (hN : 30000 ≤ N) (hw : z_wall S pc pp free ws wp v_wfree v_wpip ms mp v_mfree v_mpip) (hi : z_item n w need wo co vn v_iwid v_inee v_iswi v_iswo v_isce mn v_mwid v_mnee v_mwor v_mcen) (hz : z_pair n nw bar v_ibar v_inea v_mnea v_mbar) (hmu : z_must n M vms v_mmus) (hf : z_fil least most fl fm ml mm)
    {tc : Int32} {v_told v_mtol : Nat → Int32} {v_tval : Nat → Int64} {v_tfit v_tlon : Nat → Int32}
    {pcnt ptc pis : Int32} {pww pwc : Int64} {ppi ppb pps ptb pts pbo : Nat → Int32} (tn : Int32) (bw bc : Int64) (va vb : Int32) (vt : Nat → Int32) (c1 : Int32) {hp : Bool} {mtold mpc : Int32} {mpw mpcn : Int64} (v u : Nat → Int64) (vE vc um : Nat → Int32) {mpi mpa mps : Nat → Int32}
    (h : z_pl S n free w (fun k q => ww_met pc pp w need k q) nw bar least most hp tc v_told v_tval v_tfit v_tlon pcnt ptc pis pww pwc ppi ppb pps ptb pts pbo mtold mpc mpw mpcn v_mtol mpi mpa mps) (p1 : Int32) :
    ∃ e r c r' tc' told' pcnt' ptc' pis' pww' pwc' ppi' ppb' pps' ptb' pts' pbo' tn' bw' bc' va' vb' vt' mtold' mpc' mpw' mpcn' v' u' vE' vc' um' mtol' mpi' mpa' mps',
      f_RoomFills_variant N 16 S 6 8 64 64 64 ((S + 1) * 512) S S 40 40 40 40 40 6 64 tc v_told ws wp v_wfree vms vn v_iwid v_ibar v_inea v_iswo v_isce fl fm v_tval v_tfit v_tlon pcnt ptc pis pww pwc ppi ppb pps ptb pts pbo tn bw bc va vb vt p1 = some (e, r, tc', told', pcnt', ptc', pis', pww', pwc', ppi', ppb', pps', ptb', pts', pbo', tn', bw', bc', va', vb', vt') ∧
      f_Model_variant N 41 8 6 6 6 6 6 36 36 20992 20992 64 42 246 16 41 41 41 c1 ms mp mn ml mm hp mtold mpc mpw mpcn v_mfree v_mpip v_mwid v_mwor v_mcen v_mnee v_mmus v_mnea v_mbar v u vE vc um v_mtol mpi mpa mps p1 = some (r', c, mtold', mpc', mpw', mpcn', v', u', vE', vc', um', mtol', mpi', mpa', mps') ∧
      ((e = 0 ∧ c = 0 ∧ r = r') ∨ (e = 1 ∧ c = 1) ∨ (e = 2 ∧ c = 2)) ∧
      z_pl S n free w (fun k q => ww_met pc pp w need k q) nw bar least most hp tc' told' v_tval v_tfit v_tlon pcnt' ptc' pis' pww' pwc' ppi' ppb' pps' ptb' pts' pbo' mtold' mpc' mpw' mpcn' mtol' mpi' mpa' mps' := by
  obtain ⟨y, rfl, g3, g4⟩ := p_al p1
  have ht := z_tc h
  have d1 : ¬ ((1 : Int32) ≤ 0) := by decide
  have d2 : ¬ ((2 : Int32) ≤ 0) := by decide
  have d0 : (0 : Int32) ≤ 0 := by decide
  unfold f_RoomFills_variant f_RoomFills_demandPlan f_Model_variant
  cases hh : hp with
  | false =>
    rw [if_pos (ht.2 hh)]
    rw [hh] at h
    refine ⟨1, 0, 1, 0, tc, v_told, pcnt, ptc, pis, pww, pwc, ppi, ppb, pps, ptb, pts, pbo, tn, bw, bc, va, vb, vt, mtold, mpc, mpw, mpcn, v, u, vE, vc, um, v_mtol, mpi, mpa, mps, rfl, ?_, Or.inr (Or.inl ⟨rfl, rfl⟩), h⟩
    rw [if_neg (by decide), if_neg d1]
  | true =>
    rw [if_neg (fun q => by rw [ht.1 q] at hh; cases hh)]
    rw [hh] at h
    simp only [Option.bind, if_true]
    have h' := h
    rcases h with ⟨h1, h2⟩ | ⟨-, td, L, U, T, h2, h3, h4, h5, h6, h7, h8, h9, h10, h11, h12, h13, h14, h15, h16, h17, h18⟩
    · cases h1
    have t1 : tc < (16 : Int32) ↔ ¬ (td.length = 16) := by rw [h4, show (16 : Int32) = p_I 16 by decide, p_Ilt] <;> omega
    have t2 : mtold = (16 : Int32) ↔ td.length = 16 := by rw [h5, show (16 : Int32) = p_I 16 by decide, p_Ieq] <;> omega
    have t3 : p_I y < 0 ↔ y < 0 := by rw [p_0, p_Ilt] <;> omega
    have t4 : p_I y ≤ (6 : Int32) ↔ ¬ (6 < y) := by rw [p_6, p_Ile] <;> omega
    have i1 : f_Model_isIn N (p_I y).toInt64 0 6 = some (decide (0 ≤ y) && decide (y ≤ 6)) := by
      rw [p_tol g3 g4, show (0 : Int64) = p_J 0 by decide, show (6 : Int64) = p_J 6 by decide]
      exact r_isIn N (by omega) (by omega) (b := 0) (by omega) (by omega) (c := 6) (by omega) (by omega)
    rw [i1]
    by_cases e1 : td.length = 16
    · refine ⟨1, 0, 1, 0, tc, v_told, pcnt, ptc, pis, pww, pwc, ppi, ppb, pps, ptb, pts, pbo, tn, bw, bc, va, vb, vt, mtold, mpc, mpw, mpcn, v, u, vE, vc, um, v_mtol, mpi, mpa, mps, ?_, ?_, Or.inr (Or.inl ⟨rfl, rfl⟩), h'⟩
      · rw [if_neg (by rw [t1]; omega)]
      · rw [if_pos (t2.2 e1), if_neg d1]
    rw [if_pos (t1.2 e1), if_neg (fun q => e1 (t2.1 q))]
    have bad : (y < 0 ∨ 6 < y) → (decide (0 ≤ y) && decide (y ≤ 6)) = false := by
      intro q
      by_cases q1 : 0 ≤ y
      · rw [decide_eq_false (p := y ≤ 6) (by omega), Bool.and_false]
      · rw [decide_eq_false q1, Bool.false_and]
    by_cases e2 : y < 0
    · rw [bad (Or.inl e2)]
      refine ⟨2, 0, 2, 0, tc, v_told, pcnt, ptc, pis, pww, pwc, ppi, ppb, pps, ptb, pts, pbo, tn, bw, bc, va, vb, vt, mtold, mpc, mpw, mpcn, v, u, vE, vc, um, v_mtol, mpi, mpa, mps, ?_, ?_, Or.inr (Or.inr ⟨rfl, rfl⟩), h'⟩
      · rw [if_pos (t3.2 e2)]
      · simp only [Bool.false_eq_true, if_false, d2]
    by_cases e3 : 6 < y
    · rw [bad (Or.inr e3)]
      refine ⟨2, 0, 2, 0, tc, v_told, pcnt, ptc, pis, pww, pwc, ppi, ppb, pps, ptb, pts, pbo, tn, bw, bc, va, vb, vt, mtold, mpc, mpw, mpcn, v, u, vE, vc, um, v_mtol, mpi, mpa, mps, ?_, ?_, Or.inr (Or.inr ⟨rfl, rfl⟩), h'⟩
      · rw [if_neg (fun q => e2 (t3.1 q)), if_neg (by rw [t4]; omega)]
      · simp only [Bool.false_eq_true, if_false, d2]
    rw [if_neg (fun q => e2 (t3.1 q)), if_pos (by rw [t4]; omega), decide_eq_true (p := 0 ≤ y) (by omega), decide_eq_true (p := y ≤ 6) (by omega)]
    simp only [Bool.and_self, if_true, d0]
    subst h4; subst h5
    obtain ⟨tn', bw', bc', va', vb', vt', v', u', vE', vc', um', hres⟩ := z_tell hN hw hi hz hmu hf (td := td) h6 (by omega) h7 h8 h9 h10 h11 (ul := y) (by omega) pcnt ptc pis pww pwc ppi ppb pps ptb pts pbo tn bw bc va vb vt 0 true mpc mpw mpcn v u vE vc um mpi mpa mps
    rcases hres with ⟨pcnt', ptc', pis', pww', pwc', ppi', ppb', pps', ptb', pts', pbo', told', mtol', mpi', mpa', mps', b1, b2, b3⟩ | ⟨b1, b2⟩
    · rw [b1, b2]
      exact ⟨0, pcnt', 0, pcnt', _, told', pcnt', ptc', pis', pww', pwc', ppi', ppb', pps', ptb', pts', pbo', tn', bw', bc', va', vb', vt', _, pcnt', pww', pwc', v', u', vE', vc', um', mtol', mpi', mpa', mps', rfl, rfl, Or.inl ⟨rfl, rfl, rfl⟩, b3⟩
    · rw [b1, b2]
      exact ⟨0, -1, 0, -1, _, v_told, pcnt, ptc, pis, pww, pwc, ppi, ppb, pps, ptb, pts, pbo, tn', bw', bc', va', vb', vt', _, mpc, mpw, mpcn, v', u', vE', vc', um', v_mtol, mpi, mpa, mps, rfl, rfl, Or.inl ⟨rfl, rfl, rfl⟩, h'⟩
end
