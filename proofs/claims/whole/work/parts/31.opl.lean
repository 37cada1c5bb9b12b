/-! OPERATION untell -/
set_option maxHeartbeats 4000000 in
theorem op_untell {ro : xRO} {M : xM} {T : Nat} (h : Rel M) {i : Int32} : OpOK ro M_X7_untell M_X8_untell [some (.ref 3), some (.int i), none, none] [some (.ref 64), some (.int i)] M T := by
  obtain ⟨P, H, h8, h6, pm, hm, px, hx, a, b1, b2, b3, b4, c2, c3, c4, c5⟩ := rel_all h
  by_cases u0 : i = 0
  · subst u0
    have T1 := h.1.1.2.2.2.2.2
    obtain ⟨P9, H9, -, -, -, -, -, T2⟩ := h.1.2
    unfold hsT at T1
    unfold rwT at T2
    obtain ⟨k, k60, k1, -⟩ := T2.1
    refine OpOK.of (fun d => x_untell_0 (T1.1.1.trans k1) k60) (fun d => m_untell_0 (M := up M 14 2 0) k1 k60) rfl ?_
    refine h.txt (fun c x y => by rw [up_ne x, up_ne (by omega)]) (fun j hj => by simp only [up_rd]; grind) ?_ ?_
    · refine ⟨⟨?_, fun k hk => ?_⟩, ?_, fun k hk => ?_⟩
      · simp [up_rd]
      · simp [up_rd] at hk
      · have := T1.2.1; simp only [up_rd]; grind
      · have e : (up (up M 14 2 0) 62 156 0) 62 277 = M 62 277 := by simp only [up_rd]; grind
        rw [e] at hk
        have := T1.2.2 k hk
        have k60 : k < 60 := by
          obtain ⟨j, j1, j2, -⟩ := T2.2
          rw [j2, nI_clamp (by omega)] at hk
          omega
        simp only [up_rd]; grind
    · refine ⟨?_, ?_⟩
      · rw [show (up (up M 14 2 0) 62 156 0) 62 156 = 0 from by simp only [up_rd]; rfl]; exact wfT_0 _ _
      · rw [show (up (up M 14 2 0) 62 156 0) 62 277 = M 62 277 from by simp only [up_rd]; grind]
        exact T2.2.congr (fun i hi => by simp only [up_rd]; grind) (fun i hi => by simp only [up_rd]; grind)
  by_cases u1 : i = 1
  · subst u1
    have T1 := h.1.1.2.2.2.2.2
    obtain ⟨P9, H9, -, -, -, -, -, T2⟩ := h.1.2
    unfold hsT at T1
    unfold rwT at T2
    obtain ⟨k, k60, k1, -⟩ := T2.2
    refine OpOK.of (fun d => x_untell_1 (T1.2.1.trans k1) k60) (fun d => m_untell_1 (M := up M 17 2 0) k1 k60) rfl ?_
    refine h.txt (fun c x y => by rw [up_ne x, up_ne (by omega)]) (fun j hj => by simp only [up_rd]; grind) ?_ ?_
    · refine ⟨⟨?_, fun k hk => ?_⟩, ?_, fun k hk => ?_⟩
      · have := T1.1.1; simp only [up_rd]; grind
      · have e : (up (up M 17 2 0) 62 277 0) 62 156 = M 62 156 := by simp only [up_rd]; grind
        rw [e] at hk
        have := T1.1.2 k hk
        have k60 : k < 60 := by
          obtain ⟨j, j1, j2, -⟩ := T2.1
          rw [j2, nI_clamp (by omega)] at hk
          omega
        simp only [up_rd]; grind
      · simp [up_rd]
      · simp [up_rd] at hk
    · refine ⟨?_, ?_⟩
      · rw [show (up (up M 17 2 0) 62 277 0) 62 156 = M 62 156 from by simp only [up_rd]; grind]
        exact T2.1.congr (fun i hi => by simp only [up_rd]; grind) (fun i hi => by simp only [up_rd]; grind)
      · rw [show (up (up M 17 2 0) 62 277 0) 62 277 = 0 from by simp only [up_rd]; rfl]; exact wfT_0 _ _
  exact OpOK.of (fun d => x_untell_n u0 u1) (fun d => m_untell_n (M := up M 60 1 (M 60 1 + 1)) u0 u1) rfl (h.err 1 (by omega))
