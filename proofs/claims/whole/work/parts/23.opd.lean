/-! OPERATIONS on a pane -/
set_option maxRecDepth 100000 in
set_option maxHeartbeats 4000000 in
theorem x_wipe_o {ro : xRO} {d : Nat} {M : xM} {T : Nat} {P : Nat} (hP : M 1 6 = nI P) (h8 : P ≤ 8) {i : Int32} (hi : ¬ (0 ≤ i ∧ i < nI P)) {v : Int32} : Rn ro (d + 90) M_X7_wipe 0 [some (.ref 3), some (.int i), some (.int v), none, none] [] (mk M T) (fun r h => r = some (.int (-1000000001)) ∧ h = mk (up M 60 1 (M 60 1 + 1)) T) := by
  refine R_go 3 (pc' := 5) (L' := [some (.ref 3), some (.int i), some (.int v), none, none]) (st' := [.int i, .ref 4]) (h' := mk M T) (fun _ => rfl) ?_
  refine R_callD (i := .invokevirtual 116) (kd := 0) (y := M_X0_paneAt) (as := [.ref 4, .int i]) (r := []) (L0 := [some (.ref 4), some (.int i)]) (v := some (.null)) (h' := mk M T) (pc' := 8) (st' := [.null]) rfl rfl rfl rfl rfl rfl (c_paneAt_out hP h8 hi) ?_
  refine R_go 5 (pc' := 25) (L' := [some (.ref 3), some (.int i), some (.int v), some (.null), none]) (st' := [.int 1, .ref 3]) (h' := mk M T) (fun _ => rfl) ?_
  refine R_callD (i := .invokevirtual 75) (kd := 0) (y := M_X7_error) (as := [.ref 3, .int 1]) (r := []) (L0 := [some (.ref 3), some (.int 1)]) (v := some (.int (-1000000001))) (h' := mk (up M 60 1 (M 60 1 + 1)) T) (pc' := 28) (st' := [.int (-1000000001)]) rfl rfl rfl rfl rfl rfl (c_error_1) ?_
  refine R_ret 1 (pcr := 28) (v := some (.int (-1000000001))) (h' := mk (up M 60 1 (M 60 1 + 1)) T) (fun _ => rfl) ?_
  exact ⟨rfl, rfl⟩
set_option maxRecDepth 100000 in
set_option maxHeartbeats 4000000 in
theorem m_wipe_o {ro : xRO} {d : Nat} {M : xM} {T : Nat} {P : Nat} (hP : M 62 6 = nI P) (h8 : P ≤ 8) {i : Int32} (hi : ¬ (0 ≤ i ∧ i < nI P)) {v : Int32} : Rn ro (d + 90) M_X8_wipe 0 [some (.ref 64), some (.int i), some (.int v)] [] (mk M T) (fun r h => r = some (.int (-1000000001)) ∧ h = mk (up M 64 1 (M 64 1 + 1)) T) := by
  refine R_go 2 (pc' := 2) (L' := [some (.ref 64), some (.int i), some (.int v)]) (st' := [.int i, .ref 64]) (h' := mk M T) (fun _ => rfl) ?_
  refine R_call2 (i := .invokevirtual 92) (kd := 0) (y := M_X8_isPane) (as := [.ref 64, .int i]) (r := []) (L0 := [some (.ref 64), some (.int i)]) (v1 := some (.int 1)) (v2 := some (.int 0)) (h1' := mk M T) (h2' := mk M T) (pc' := 5) (st1 := [.int 1]) (st2 := [.int 0]) rfl rfl rfl rfl rfl rfl (m_isPane hP h8) (fun g1 => ?_) (fun g1 => ?_)
  · exact absurd g1 (hi)
  · refine R_go 3 (pc' := 38) (L' := [some (.ref 64), some (.int i), some (.int v)]) (st' := [.int (-1000000001), .ref 64]) (h' := mk M T) (fun _ => rfl) ?_
    refine R_callD (i := .invokevirtual 81) (kd := 0) (y := M_X8_error) (as := [.ref 64, .int (-1000000001)]) (r := []) (L0 := [some (.ref 64), some (.int (-1000000001))]) (v := some (.int (-1000000001))) (h' := mk (up M 64 1 (M 64 1 + 1)) T) (pc' := 41) (st' := [.int (-1000000001)]) rfl rfl rfl rfl rfl rfl (m_error_1) ?_
    refine R_ret 1 (pcr := 41) (v := some (.int (-1000000001))) (h' := mk (up M 64 1 (M 64 1 + 1)) T) (fun _ => rfl) ?_
    exact ⟨rfl, rfl⟩
set_option maxRecDepth 100000 in
set_option maxHeartbeats 4000000 in
theorem x_wipe_i {ro : xRO} {d : Nat} {M : xM} {T : Nat} {P : Nat} (hP : M 1 6 = nI P) (h8 : P ≤ 8) {n : Nat} (hn : n < P) {c : Nat} (hc : c ≤ 9) : Rn ro (d + 90) M_X7_wipe 0 [some (.ref 3), some (.int (nI n)), some (.int (nI c)), none, none] [] (mk M T) (fun r h => r = some (.int (M (3 + n) 3)) ∧ h = mk (up M (3 + n) 3 (nI c)) T) := by
  refine R_go 3 (pc' := 5) (L' := [some (.ref 3), some (.int (nI n)), some (.int (nI c)), none, none]) (st' := [.int (nI n), .ref 4]) (h' := mk M T) (fun _ => rfl) ?_
  refine R_callD (i := .invokevirtual 116) (kd := 0) (y := M_X0_paneAt) (as := [.ref 4, .int (nI n)]) (r := []) (L0 := [some (.ref 4), some (.int (nI n))]) (v := some (.ref (3 + n + 3))) (h' := mk M T) (pc' := 8) (st' := [.ref (3 + n + 3)]) rfl rfl rfl rfl rfl rfl (c_paneAt_in hP h8 hn) ?_
  refine R_go 6 (pc' := 17) (L' := [some (.ref 3), some (.int (nI n)), some (.int (nI c)), some (.ref (3 + n + 3)), none]) (st' := [.int 9, .int 0, .int (nI c)]) (h' := mk M T) (fun _ => rfl) ?_
  refine R_call2 (i := .invokestatic 78) (kd := 1) (y := M_X7_within) (as := [.int (nI c), .int 0, .int 9]) (r := []) (L0 := [some (.int (nI c)), some (.int 0), some (.int 9)]) (v1 := some (.int 1)) (v2 := some (.int 0)) (h1' := mk M T) (h2' := mk M T) (pc' := 20) (st1 := [.int 1]) (st2 := [.int 0]) rfl rfl rfl rfl rfl rfl (c_within) (fun g1 => ?_) (fun g1 => ?_)
  · refine R_go 2 (pc' := 30) (L' := [some (.ref 3), some (.int (nI n)), some (.int (nI c)), some (.ref (3 + n + 3)), none]) (st' := [.ref (3 + n + 3)]) (h' := mk M T) (fun _ => rfl) ?_
    refine R_getI (i := 101) (j := 3) (c := 3 + n) (sh_pane (by omega)) rfl rfl rfl ?_
    refine R_go 3 (pc' := 37) (L' := [some (.ref 3), some (.int (nI n)), some (.int (nI c)), some (.ref (3 + n + 3)), some (.int (M (3 + n) 3))]) (st' := [.int (nI c), .ref (3 + n + 3)]) (h' := mk M T) (fun _ => rfl) ?_
    refine R_putI (i := 101) (j := 3) (c := 3 + n) (sh_pane (by omega)) rfl rfl rfl ?_
    refine R_ret 2 (pcr := 42) (v := some (.int (M (3 + n) 3))) (h' := mk (up M (3 + n) 3 (nI c)) T) (fun _ => rfl) ?_
    exact ⟨rfl, rfl⟩
  · exact absurd (nI_in2 (a := 0) (b := 9) (by omega) hc (by omega)) g1
set_option maxRecDepth 100000 in
set_option maxHeartbeats 4000000 in
theorem m_wipe_i {ro : xRO} {d : Nat} {M : xM} {T : Nat} {P : Nat} (hP : M 62 6 = nI P) (h8 : P ≤ 8) {n : Nat} (hn : n < P) {c : Nat} (hc : c ≤ 9) : Rn ro (d + 90) M_X8_wipe 0 [some (.ref 64), some (.int (nI n)), some (.int (nI c))] [] (mk M T) (fun r h => r = some (.int (M 62 (10 + 7 * n + 3))) ∧ h = mk (up M 62 (10 + 7 * n + 3) (nI c)) T) := by
  refine R_go 2 (pc' := 2) (L' := [some (.ref 64), some (.int (nI n)), some (.int (nI c))]) (st' := [.int (nI n), .ref 64]) (h' := mk M T) (fun _ => rfl) ?_
  refine R_call2 (i := .invokevirtual 92) (kd := 0) (y := M_X8_isPane) (as := [.ref 64, .int (nI n)]) (r := []) (L0 := [some (.ref 64), some (.int (nI n))]) (v1 := some (.int 1)) (v2 := some (.int 0)) (h1' := mk M T) (h2' := mk M T) (pc' := 5) (st1 := [.int 1]) (st2 := [.int 0]) rfl rfl rfl rfl rfl rfl (m_isPane hP h8) (fun g1 => ?_) (fun g1 => ?_)
  · refine R_go 4 (pc' := 12) (L' := [some (.ref 64), some (.int (nI n)), some (.int (nI c))]) (st' := [.int 9, .int 0, .int (nI c)]) (h' := mk M T) (fun _ => rfl) ?_
    refine R_call2 (i := .invokestatic 53) (kd := 1) (y := M_X8_in) (as := [.int (nI c), .int 0, .int 9]) (r := []) (L0 := [some (.int (nI c)), some (.int 0), some (.int 9)]) (v1 := some (.int 1)) (v2 := some (.int 0)) (h1' := mk M T) (h2' := mk M T) (pc' := 15) (st1 := [.int 1]) (st2 := [.int 0]) rfl rfl rfl rfl rfl rfl (m_in) (fun g2 => ?_) (fun g2 => ?_)
    · refine R_go 6 (pc' := 25) (L' := [some (.ref 64), some (.int (nI n)), some (.int (nI c))]) (st' := [.int (7 * nI n), .int 10, .ref 64]) (h' := mk M T) (fun _ => rfl) ?_
      refine R_top (pk_mul 7 n) ?_
      refine R_go 1 (pc' := 26) (L' := [some (.ref 64), some (.int (nI n)), some (.int (nI c))]) (st' := [.int (10 + nI (7 * n)), .ref 64]) (h' := mk M T) (fun _ => rfl) ?_
      refine R_top (nI_add 10 (7 * n)) ?_
      refine R_go 2 (pc' := 28) (L' := [some (.ref 64), some (.int (nI n)), some (.int (nI c))]) (st' := [.int (nI (10 + (7 * n)) + 3), .ref 64]) (h' := mk M T) (fun _ => rfl) ?_
      refine R_top (nI_add (10 + (7 * n)) 3) ?_
      refine R_go 1 (pc' := 29) (L' := [some (.ref 64), some (.int (nI n)), some (.int (nI c))]) (st' := [.int (nI c), .int (nI ((10 + (7 * n)) + 3)), .ref 64]) (h' := mk M T) (fun _ => rfl) ?_
      refine R_callD (i := .invokevirtual 95) (kd := 0) (y := M_X8_becomes) (as := [.ref 64, .int (nI ((10 + (7 * n)) + 3)), .int (nI c)]) (r := []) (L0 := [some (.ref 64), some (.int (nI ((10 + (7 * n)) + 3))), some (.int (nI c)), none]) (v := some (.int (M 62 ((10 + (7 * n)) + 3)))) (h' := mk (up M 62 ((10 + (7 * n)) + 3) (nI c)) T) (pc' := 32) (st' := [.int (M 62 ((10 + (7 * n)) + 3))]) rfl rfl rfl rfl rfl rfl (m_becomes (j := ((10 + (7 * n)) + 3)) (by omega)) ?_
      refine R_ret 2 (pcr := 41) (v := some (.int (M 62 ((10 + (7 * n)) + 3)))) (h' := mk (up M 62 ((10 + (7 * n)) + 3) (nI c)) T) (fun _ => rfl) ?_
      exact ⟨rfl, rfl⟩
    · exact absurd (nI_in2 (a := 0) (b := 9) (by omega) hc (by omega)) g2
  · exact absurd (⟨nI_pos' (by omega), nI_lt hn (by omega)⟩) g1
set_option maxRecDepth 100000 in
set_option maxHeartbeats 4000000 in
theorem x_wipe_b {ro : xRO} {d : Nat} {M : xM} {T : Nat} {P : Nat} (hP : M 1 6 = nI P) (h8 : P ≤ 8) {n : Nat} (hn : n < P) {v : Int32} (hv : ¬ (0 ≤ v ∧ v ≤ 9)) : Rn ro (d + 90) M_X7_wipe 0 [some (.ref 3), some (.int (nI n)), some (.int v), none, none] [] (mk M T) (fun r h => r = some (.int (-1000000001)) ∧ h = mk (up M 60 1 (M 60 1 + 1)) T) := by
  refine R_go 3 (pc' := 5) (L' := [some (.ref 3), some (.int (nI n)), some (.int v), none, none]) (st' := [.int (nI n), .ref 4]) (h' := mk M T) (fun _ => rfl) ?_
  refine R_callD (i := .invokevirtual 116) (kd := 0) (y := M_X0_paneAt) (as := [.ref 4, .int (nI n)]) (r := []) (L0 := [some (.ref 4), some (.int (nI n))]) (v := some (.ref (3 + n + 3))) (h' := mk M T) (pc' := 8) (st' := [.ref (3 + n + 3)]) rfl rfl rfl rfl rfl rfl (c_paneAt_in hP h8 hn) ?_
  refine R_go 6 (pc' := 17) (L' := [some (.ref 3), some (.int (nI n)), some (.int v), some (.ref (3 + n + 3)), none]) (st' := [.int 9, .int 0, .int v]) (h' := mk M T) (fun _ => rfl) ?_
  refine R_call2 (i := .invokestatic 78) (kd := 1) (y := M_X7_within) (as := [.int v, .int 0, .int 9]) (r := []) (L0 := [some (.int v), some (.int 0), some (.int 9)]) (v1 := some (.int 1)) (v2 := some (.int 0)) (h1' := mk M T) (h2' := mk M T) (pc' := 20) (st1 := [.int 1]) (st2 := [.int 0]) rfl rfl rfl rfl rfl rfl (c_within) (fun g1 => ?_) (fun g1 => ?_)
  · exact absurd g1 (hv)
  · refine R_go 3 (pc' := 25) (L' := [some (.ref 3), some (.int (nI n)), some (.int v), some (.ref (3 + n + 3)), none]) (st' := [.int 1, .ref 3]) (h' := mk M T) (fun _ => rfl) ?_
    refine R_callD (i := .invokevirtual 75) (kd := 0) (y := M_X7_error) (as := [.ref 3, .int 1]) (r := []) (L0 := [some (.ref 3), some (.int 1)]) (v := some (.int (-1000000001))) (h' := mk (up M 60 1 (M 60 1 + 1)) T) (pc' := 28) (st' := [.int (-1000000001)]) rfl rfl rfl rfl rfl rfl (c_error_1) ?_
    refine R_ret 1 (pcr := 28) (v := some (.int (-1000000001))) (h' := mk (up M 60 1 (M 60 1 + 1)) T) (fun _ => rfl) ?_
    exact ⟨rfl, rfl⟩
set_option maxRecDepth 100000 in
set_option maxHeartbeats 4000000 in
theorem m_wipe_b {ro : xRO} {d : Nat} {M : xM} {T : Nat} {P : Nat} (hP : M 62 6 = nI P) (h8 : P ≤ 8) {n : Nat} (hn : n < P) {v : Int32} (hv : ¬ (0 ≤ v ∧ v ≤ 9)) : Rn ro (d + 90) M_X8_wipe 0 [some (.ref 64), some (.int (nI n)), some (.int v)] [] (mk M T) (fun r h => r = some (.int (-1000000001)) ∧ h = mk (up M 64 1 (M 64 1 + 1)) T) := by
  refine R_go 2 (pc' := 2) (L' := [some (.ref 64), some (.int (nI n)), some (.int v)]) (st' := [.int (nI n), .ref 64]) (h' := mk M T) (fun _ => rfl) ?_
  refine R_call2 (i := .invokevirtual 92) (kd := 0) (y := M_X8_isPane) (as := [.ref 64, .int (nI n)]) (r := []) (L0 := [some (.ref 64), some (.int (nI n))]) (v1 := some (.int 1)) (v2 := some (.int 0)) (h1' := mk M T) (h2' := mk M T) (pc' := 5) (st1 := [.int 1]) (st2 := [.int 0]) rfl rfl rfl rfl rfl rfl (m_isPane hP h8) (fun g1 => ?_) (fun g1 => ?_)
  · refine R_go 4 (pc' := 12) (L' := [some (.ref 64), some (.int (nI n)), some (.int v)]) (st' := [.int 9, .int 0, .int v]) (h' := mk M T) (fun _ => rfl) ?_
    refine R_call2 (i := .invokestatic 53) (kd := 1) (y := M_X8_in) (as := [.int v, .int 0, .int 9]) (r := []) (L0 := [some (.int v), some (.int 0), some (.int 9)]) (v1 := some (.int 1)) (v2 := some (.int 0)) (h1' := mk M T) (h2' := mk M T) (pc' := 15) (st1 := [.int 1]) (st2 := [.int 0]) rfl rfl rfl rfl rfl rfl (m_in) (fun g2 => ?_) (fun g2 => ?_)
    · exact absurd g2 (hv)
    · refine R_go 3 (pc' := 38) (L' := [some (.ref 64), some (.int (nI n)), some (.int v)]) (st' := [.int (-1000000001), .ref 64]) (h' := mk M T) (fun _ => rfl) ?_
      refine R_callD (i := .invokevirtual 81) (kd := 0) (y := M_X8_error) (as := [.ref 64, .int (-1000000001)]) (r := []) (L0 := [some (.ref 64), some (.int (-1000000001))]) (v := some (.int (-1000000001))) (h' := mk (up M 64 1 (M 64 1 + 1)) T) (pc' := 41) (st' := [.int (-1000000001)]) rfl rfl rfl rfl rfl rfl (m_error_1) ?_
      refine R_ret 1 (pcr := 41) (v := some (.int (-1000000001))) (h' := mk (up M 64 1 (M 64 1 + 1)) T) (fun _ => rfl) ?_
      exact ⟨rfl, rfl⟩
  · exact absurd (⟨nI_pos' (by omega), nI_lt hn (by omega)⟩) g1
set_option maxHeartbeats 4000000 in
theorem op_wipe {ro : xRO} {M : xM} {T : Nat} (h : Rel M) {i v : Int32} : OpOK ro M_X7_wipe M_X8_wipe [some (.ref 3), some (.int i), some (.int v), none, none] [some (.ref 64), some (.int i), some (.int v)] M T := by
  obtain ⟨P, H, h8, h6, pm, hm, px, hx, a, b1, b2, b3, b4, c2, c3, c4, c5⟩ := rel_all h
  rcases nI_cases i P (by omega) with ⟨n, hn, rfl⟩ | hi
  · rcases of_in v (b := 9) (by omega) with ⟨c, hc, rfl⟩ | hv
    · have iv : iN (nI c) 9 := ⟨c, hc, rfl⟩
      have bn := b1 n 3 (by omega) (by omega)
      refine OpOK.of (fun d => x_wipe_i px h8 hn hc) (fun d => m_wipe_i (M := up M (3 + n) 3 (nI c)) (by simp only [up_rd]; grind) h8 hn hc) (by simp only [up_rd]; grind) ?_
      refine h.now ?_ ?_ ?_ ?_ ?_ ?_ ?_ P H ?_ ?_ ?_ ?_ ?_
      · intro c x y; simp only [up_ne x, up_ne (show c ≠ 1 from fun q => y (by omega)), up_ne (show c ≠ 11 from fun q => y (by omega)), up_ne (show c ≠ 12 from fun q => y (by omega)), up_ne (show c ≠ 13 from fun q => y (by omega)), up_ne (show c ≠ 3 + n from fun q => y (by omega))]
      · intro j hj; simp only [up_rd]; grind
      · unfold hsA; simp only [up_rd]; grind
      · intro p j hp hj; have := b1 p j hp hj; simp only [up_rd]; grind
      · intro i hi; have := b2 i hi; have := c5 i hi; simp only [up_rd]; grind
      · intro i hi; have := b3 i hi; simp only [up_rd]; grind
      · intro i hi; have := b4 i hi; simp only [up_rd]; grind
      · unfold rwA; simp only [up_rd]; grind
      · unfold rwB; simp only [up_rd]; grind
      · intro p hp; have := c3 p hp; simp only [up_rd]; grind
      · intro p hp; obtain ⟨he, e1, e2⟩ := c4 p (by omega); exact ⟨he, by omega, by simp only [up_rd]; grind⟩
      · intro i hi; have := c5 i hi; have : iN 0 99999 := ⟨0, by omega, rfl⟩; simp only [up_rd]; grind
    · exact OpOK.of (fun d => x_wipe_b px h8 hn hv) (fun d => m_wipe_b (M := up M 60 1 (M 60 1 + 1)) pm h8 hn hv) rfl (h.err 1 (by omega))
  · exact OpOK.of (fun d => x_wipe_o px h8 hi) (fun d => m_wipe_o (M := up M 60 1 (M 60 1 + 1)) pm h8 hi) rfl (h.err 1 (by omega))
