set_option maxRecDepth 100000 in
set_option maxHeartbeats 4000000 in
theorem q_E0 {s : State} {b : Nat} {cur : ClassId} (hts : ∀ w ∈ lw_tbl, w.before #[Value.ref b] s = true) (hcur : s.vm.findClass R_RoomFills = some cur) (hgs : ∀ c ∈ flatC (Jvm.Cond.and given_1 narrow_1), c.before #[Value.ref b] s = true) : q_E s := by
  refine ⟨fun w hw => ?_, fun q hq => ?_, fun q hq => ?_⟩
  · refine va_Nw.of (q_NW_ok w hw) (hts w ?_)
    simp only [q_NW, List.mem_cons, List.not_mem_nil, or_false] at hw
    rcases hw with rfl | rfl | rfl | rfl | rfl | rfl | rfl
    · decide +kernel
    · decide +kernel
    · decide +kernel
    · decide +kernel
    · decide +kernel
    · decide +kernel
    · decide +kernel
  · simp only [q_TX, List.mem_cons, List.not_mem_nil, or_false] at hq
    rcases hq with rfl | rfl | rfl | rfl | rfl | rfl | rfl | rfl | rfl | rfl | rfl | rfl | rfl | rfl | rfl | rfl | rfl
    · have hw := hts (.stringRef R_RoomFills 74 "no such span") (by decide +kernel)
      obtain ⟨k, cf, i, a, -, -, -, -, -, hev⟩ := Cond.stringRef_spec hcur hw
      exact ⟨a, vk_R.of hw hev⟩
    · have hw := hts (.stringRef R_RoomFills 87 "no such step") (by decide +kernel)
      obtain ⟨k, cf, i, a, -, -, -, -, -, hev⟩ := Cond.stringRef_spec hcur hw
      exact ⟨a, vk_R.of hw hev⟩
    · have hw := hts (.stringRef R_RoomFills 97 "no room for another item") (by decide +kernel)
      obtain ⟨k, cf, i, a, -, -, -, -, -, hev⟩ := Cond.stringRef_spec hcur hw
      exact ⟨a, vk_R.of hw hev⟩
    · have hw := hts (.stringRef R_RoomFills 104 "width, worth or cents out of range") (by decide +kernel)
      obtain ⟨k, cf, i, a, -, -, -, -, -, hev⟩ := Cond.stringRef_spec hcur hw
      exact ⟨a, vk_R.of hw hev⟩
    · have hw := hts (.stringRef R_RoomFills 230 "no such item") (by decide +kernel)
      obtain ⟨k, cf, i, a, -, -, -, -, -, hev⟩ := Cond.stringRef_spec hcur hw
      exact ⟨a, vk_R.of hw hev⟩
    · have hw := hts (.stringRef R_RoomFills 113 "most out of range") (by decide +kernel)
      obtain ⟨k, cf, i, a, -, -, -, -, -, hev⟩ := Cond.stringRef_spec hcur hw
      exact ⟨a, vk_R.of hw hev⟩
    · have hw := hts (.stringRef R_RoomFills 232 "both are one item") (by decide +kernel)
      obtain ⟨k, cf, i, a, -, -, -, -, -, hev⟩ := Cond.stringRef_spec hcur hw
      exact ⟨a, vk_R.of hw hev⟩
    · have hw := hts (.stringRef R_RoomFills 122 "worth out of range") (by decide +kernel)
      obtain ⟨k, cf, i, a, -, -, -, -, -, hev⟩ := Cond.stringRef_spec hcur hw
      exact ⟨a, vk_R.of hw hev⟩
    · have hw := hts (.stringRef R_RoomFills 135 "least or most out of range") (by decide +kernel)
      obtain ⟨k, cf, i, a, -, -, -, -, -, hev⟩ := Cond.stringRef_spec hcur hw
      exact ⟨a, vk_R.of hw hev⟩
    · have hw := hts (.stringRef R_RoomFills 228 "no plan") (by decide +kernel)
      obtain ⟨k, cf, i, a, -, -, -, -, -, hev⟩ := Cond.stringRef_spec hcur hw
      exact ⟨a, vk_R.of hw hev⟩
    · have hw := hts (.stringRef R_RoomFills 156 "no room for another told plan") (by decide +kernel)
      obtain ⟨k, cf, i, a, -, -, -, -, -, hev⟩ := Cond.stringRef_spec hcur hw
      exact ⟨a, vk_R.of hw hev⟩
    · have hw := hts (.stringRef R_RoomFills 158 "unlike out of range") (by decide +kernel)
      obtain ⟨k, cf, i, a, -, -, -, -, -, hev⟩ := Cond.stringRef_spec hcur hw
      exact ⟨a, vk_R.of hw hev⟩
    · have hw := hts (.stringRef R_RoomFills 172 "no such piece") (by decide +kernel)
      obtain ⟨k, cf, i, a, -, -, -, -, -, hev⟩ := Cond.stringRef_spec hcur hw
      exact ⟨a, vk_R.of hw hev⟩
    · have hw := hts (.stringRef R_RoomFills 175 "what is not 0, 1 or 2") (by decide +kernel)
      obtain ⟨k, cf, i, a, -, -, -, -, -, hev⟩ := Cond.stringRef_spec hcur hw
      exact ⟨a, vk_R.of hw hev⟩
    · have hw := hts (.stringRef R_RoomFills 186 "what is not 0 or 1") (by decide +kernel)
      obtain ⟨k, cf, i, a, -, -, -, -, -, hev⟩ := Cond.stringRef_spec hcur hw
      exact ⟨a, vk_R.of hw hev⟩
    · have hw := hts (.stringRef R_RoomFills 198 "no such top") (by decide +kernel)
      obtain ⟨k, cf, i, a, -, -, -, -, -, hev⟩ := Cond.stringRef_spec hcur hw
      exact ⟨a, vk_R.of hw hev⟩
    · have hw := hts (.stringRef R_RoomFills 206 "at out of range") (by decide +kernel)
      obtain ⟨k, cf, i, a, -, -, -, -, -, hev⟩ := Cond.stringRef_spec hcur hw
      exact ⟨a, vk_R.of hw hev⟩
  · simp only [q_NC, List.mem_cons, List.not_mem_nil, or_false] at hq
    rcases hq with rfl | rfl | rfl | rfl | rfl | rfl
    · exact va_Nc.of (hgs (.not (.castable "java/lang/IllegalStateException" "java/lang/IllegalArgumentException")) (by decide +kernel))
    · exact va_Nc.of (hgs (.not (.castable "java/lang/IllegalStateException" "java/lang/IndexOutOfBoundsException")) (by decide +kernel))
    · exact va_Nc.of (hgs (.not (.castable "java/lang/IllegalArgumentException" "java/lang/IllegalStateException")) (by decide +kernel))
    · exact va_Nc.of (hgs (.not (.castable "java/lang/IllegalArgumentException" "java/lang/IndexOutOfBoundsException")) (by decide +kernel))
    · exact va_Nc.of (hgs (.not (.castable "java/lang/IndexOutOfBoundsException" "java/lang/IllegalStateException")) (by decide +kernel))
    · exact va_Nc.of (hgs (.not (.castable "java/lang/IndexOutOfBoundsException" "java/lang/IllegalArgumentException")) (by decide +kernel))
set_option maxRecDepth 100000 in
theorem q_Z0 {s : State} {b : Nat} (hts : ∀ w ∈ lw_tbl, w.before #[Value.ref b] s = true) (hgs : ∀ c ∈ flatC (Jvm.Cond.and given_1 narrow_1), c.before #[Value.ref b] s = true) : q_Z (fun q : Nat => s.heap.size ≤ q) s s.heap :=
  ⟨q_St.of (hts (.laysStatic Bundle.tN "UNASSIGNED_STACK" Bundle.steD) (by decide +kernel)) (hgs (.isRef (.static Bundle.tN "UNASSIGNED_STACK" Bundle.steD)) (by decide +kernel)) (fun a h => Nat.not_le.mpr h), q_St.of (hts (.laysStatic Bundle.tN "SUPPRESSED_SENTINEL" Bundle.listD) (by decide +kernel)) (hgs (.isRef (.static Bundle.tN "SUPPRESSED_SENTINEL" Bundle.listD)) (by decide +kernel)) (fun a h => Nat.not_le.mpr h)⟩
set_option maxRecDepth 100000 in
theorem q_D0 {s : State} {b : Nat} (hts : ∀ w ∈ w_law, w.before #[Value.ref b] s = true) : ∃ D : va_G, ∃ ki : Nat → ClassId, va_K D vwCl (TYS ki) s := by
  obtain ⟨c0, iS0, hKn0⟩ := u_known (C := R_RoomFills) (T := F_RoomFills) (N := 7) (n := 7) hts (fun w h => List.mem_cons_of_mem _ (i_RoomFills w h)) (hts (.instantiable R_RoomFills 7) (List.mem_cons_of_mem _ m_73))
  obtain ⟨c1, iS1, hKn1⟩ := u_known (C := R_Wall) (T := F_Wall) (N := 4) (n := 4) hts (fun w h => List.mem_cons_of_mem _ (i_Wall w h)) (hts (.instantiable R_Wall 4) (List.mem_cons_of_mem _ m_81))
  obtain ⟨c2, iS2, hKn2⟩ := u_known (C := R_Items) (T := F_Items) (N := 9) (n := 9) hts (fun w h => List.mem_cons_of_mem _ (i_Items w h)) (hts (.instantiable R_Items 9) (List.mem_cons_of_mem _ m_114))
  obtain ⟨c3, iS3, hKn3⟩ := u_known (C := R_Fillers) (T := F_Fillers) (N := 2) (n := 2) hts (fun w h => List.mem_cons_of_mem _ (i_Fillers w h)) (hts (.instantiable R_Fillers 2) (List.mem_cons_of_mem _ m_164))
  obtain ⟨c4, iS4, hKn4⟩ := u_known (C := R_Table) (T := F_Table) (N := 6) (n := 6) hts (fun w h => List.mem_cons_of_mem _ (i_Table w h)) (hts (.instantiable R_Table 6) (List.mem_cons_of_mem _ m_186))
  obtain ⟨c5, iS5, hKn5⟩ := u_known (C := R_Plan) (T := F_Plan) (N := 11) (n := 11) hts (fun w h => List.mem_cons_of_mem _ (i_Plan w h)) (hts (.instantiable R_Plan 11) (List.mem_cons_of_mem _ m_213))
  obtain ⟨c6, iS6, hKn6⟩ := u_known (C := R_Planner) (T := F_Planner) (N := 10) (n := 10) hts (fun w h => List.mem_cons_of_mem _ (i_Planner w h)) (hts (.instantiable R_Planner 10) (List.mem_cons_of_mem _ m_180))
  obtain ⟨c7, iS7, hKn7⟩ := u_known (C := R_Row) (T := F_Row) (N := 4) (n := 4) hts (fun w h => List.mem_cons_of_mem _ (i_Row w h)) (hts (.instantiable R_Row 4) (List.mem_cons_of_mem _ m_298))
  obtain ⟨c8, iS8, hKn8⟩ := u_known (C := R_Model) (T := F_Model) (N := 30) (n := 30) hts (fun w h => List.mem_cons_of_mem _ (i_Model w h)) (hts (.instantiable R_Model 30) (List.mem_cons_of_mem _ m_838))
  obtain ⟨k0, hA0, hR0⟩ := q_arr (ty := .int) (fun C h => by cases h) (hts (.arrayClass .int) (List.mem_cons_of_mem _ m_112))
  obtain ⟨k1, hA1, hR1⟩ := q_arr (ty := .long) (fun C h => by cases h) (hts (.arrayClass .long) (List.mem_cons_of_mem _ m_162))
  obtain ⟨k2, hA2, hR2⟩ := q_arr (ty := .boolean) (fun C h => by cases h) (hts (.arrayClass .boolean) (List.mem_cons_of_mem _ m_111))
  refine ⟨(fun k => if k = 0 then c0 else if k = 1 then c1 else if k = 2 then c2 else if k = 3 then c3 else if k = 4 then c4 else if k = 5 then c5 else if k = 6 then c6 else if k = 7 then c7 else c8, fun k => if k = 0 then iS0 else if k = 1 then iS1 else if k = 2 then iS2 else if k = 3 then iS3 else if k = 4 then iS4 else if k = 5 then iS5 else if k = 6 then iS6 else if k = 7 then iS7 else iS8), fun k => if k = 0 then k0 else if k = 1 then k1 else k2, ?_, ?_⟩
  · intro k q hq
    match k, hq with
    | 0, hq => cases hq; exact hKn0
    | 1, hq => cases hq; exact hKn1
    | 2, hq => cases hq; exact hKn2
    | 3, hq => cases hq; exact hKn3
    | 4, hq => cases hq; exact hKn4
    | 5, hq => cases hq; exact hKn5
    | 6, hq => cases hq; exact hKn6
    | 7, hq => cases hq; exact hKn7
    | 8, hq => cases hq; exact hKn8
    | k + 9, hq => simp at hq
  · intro k q hq
    match k, hq with
    | 0, hq => cases hq; exact ⟨hA0, hR0⟩
    | 1, hq => cases hq; exact ⟨hA1, hR1⟩
    | 2, hq => cases hq; exact ⟨hA2, hR2⟩
    | k + 3, hq => simp at hq
