/-! OPERATIONS on a pane, more -/
set_option maxRecDepth 100000 in
set_option maxHeartbeats 4000000 in
theorem x_names_o {ro : xRO} {d : Nat} {M : xM} {T : Nat} {P : Nat} (hP : M 1 6 = nI P) (h8 : P ≤ 8) {i : Int32} (hi : ¬ (0 ≤ i ∧ i < nI P)) {v : Int32} : Rn ro (d + 90) M_X7_names 0 [some (.ref 3), some (.int i), some (.int v), none, none] [] (mk M T) (fun r h => r = some (.int (-1000000001)) ∧ h = mk (up M 60 1 (M 60 1 + 1)) T) := by
  refine R_go 3 (pc' := 5) (L' := [some (.ref 3), some (.int i), some (.int v), none, none]) (st' := [.int i, .ref 4]) (h' := mk M T) (fun _ => rfl) ?_
  refine R_callD (i := .invokevirtual 116) (kd := 0) (y := M_X0_paneAt) (as := [.ref 4, .int i]) (r := []) (L0 := [some (.ref 4), some (.int i)]) (v := some (.null)) (h' := mk M T) (pc' := 8) (st' := [.null]) rfl rfl rfl rfl rfl rfl (c_paneAt_out hP h8 hi) ?_
  refine R_go 5 (pc' := 26) (L' := [some (.ref 3), some (.int i), some (.int v), some (.null), none]) (st' := [.int 1, .ref 3]) (h' := mk M T) (fun _ => rfl) ?_
  refine R_callD (i := .invokevirtual 75) (kd := 0) (y := M_X7_error) (as := [.ref 3, .int 1]) (r := []) (L0 := [some (.ref 3), some (.int 1)]) (v := some (.int (-1000000001))) (h' := mk (up M 60 1 (M 60 1 + 1)) T) (pc' := 29) (st' := [.int (-1000000001)]) rfl rfl rfl rfl rfl rfl (c_error_1) ?_
  refine R_ret 1 (pcr := 29) (v := some (.int (-1000000001))) (h' := mk (up M 60 1 (M 60 1 + 1)) T) (fun _ => rfl) ?_
  exact ⟨rfl, rfl⟩
set_option maxRecDepth 100000 in
set_option maxHeartbeats 4000000 in
theorem m_names_o {ro : xRO} {d : Nat} {M : xM} {T : Nat} {P : Nat} (hP : M 62 6 = nI P) (h8 : P ≤ 8) {i : Int32} (hi : ¬ (0 ≤ i ∧ i < nI P)) {v : Int32} : Rn ro (d + 90) M_X8_names 0 [some (.ref 64), some (.int i), some (.int v)] [] (mk M T) (fun r h => r = some (.int (-1000000001)) ∧ h = mk (up M 64 1 (M 64 1 + 1)) T) := by
  refine R_go 2 (pc' := 2) (L' := [some (.ref 64), some (.int i), some (.int v)]) (st' := [.int i, .ref 64]) (h' := mk M T) (fun _ => rfl) ?_
  refine R_call2 (i := .invokevirtual 92) (kd := 0) (y := M_X8_isPane) (as := [.ref 64, .int i]) (r := []) (L0 := [some (.ref 64), some (.int i)]) (v1 := some (.int 1)) (v2 := some (.int 0)) (h1' := mk M T) (h2' := mk M T) (pc' := 5) (st1 := [.int 1]) (st2 := [.int 0]) rfl rfl rfl rfl rfl rfl (m_isPane hP h8) (fun g1 => ?_) (fun g1 => ?_)
  · exact absurd g1 (hi)
  · refine R_go 3 (pc' := 36) (L' := [some (.ref 64), some (.int i), some (.int v)]) (st' := [.int (-1000000001), .ref 64]) (h' := mk M T) (fun _ => rfl) ?_
    refine R_callD (i := .invokevirtual 81) (kd := 0) (y := M_X8_error) (as := [.ref 64, .int (-1000000001)]) (r := []) (L0 := [some (.ref 64), some (.int (-1000000001))]) (v := some (.int (-1000000001))) (h' := mk (up M 64 1 (M 64 1 + 1)) T) (pc' := 39) (st' := [.int (-1000000001)]) rfl rfl rfl rfl rfl rfl (m_error_1) ?_
    refine R_ret 1 (pcr := 39) (v := some (.int (-1000000001))) (h' := mk (up M 64 1 (M 64 1 + 1)) T) (fun _ => rfl) ?_
    exact ⟨rfl, rfl⟩
set_option maxRecDepth 100000 in
set_option maxHeartbeats 4000000 in
theorem x_names_i {ro : xRO} {d : Nat} {M : xM} {T : Nat} {P : Nat} (hP : M 1 6 = nI P) (h8 : P ≤ 8) {H : Nat} (hH : M 1 7 = nI H) (h6 : H ≤ 6) {n : Nat} (hn : n < P) {e : Nat} (he : e < H) : Rn ro (d + 90) M_X7_names 0 [some (.ref 3), some (.int (nI n)), some (.int (nI e)), none, none] [] (mk M T) (fun r h => r = some (.int (M (3 + n) 5)) ∧ h = mk (up M (3 + n) 5 (nI e)) T) := by
  refine R_go 3 (pc' := 5) (L' := [some (.ref 3), some (.int (nI n)), some (.int (nI e)), none, none]) (st' := [.int (nI n), .ref 4]) (h' := mk M T) (fun _ => rfl) ?_
  refine R_callD (i := .invokevirtual 116) (kd := 0) (y := M_X0_paneAt) (as := [.ref 4, .int (nI n)]) (r := []) (L0 := [some (.ref 4), some (.int (nI n))]) (v := some (.ref (3 + n + 3))) (h' := mk M T) (pc' := 8) (st' := [.ref (3 + n + 3)]) rfl rfl rfl rfl rfl rfl (c_paneAt_in hP h8 hn) ?_
  refine R_go 6 (pc' := 18) (L' := [some (.ref 3), some (.int (nI n)), some (.int (nI e)), some (.ref (3 + n + 3)), none]) (st' := [.int (nI e), .ref 4]) (h' := mk M T) (fun _ => rfl) ?_
  refine R_call2 (i := .invokevirtual 82) (kd := 0) (y := M_X0_hasHeir) (as := [.ref 4, .int (nI e)]) (r := []) (L0 := [some (.ref 4), some (.int (nI e))]) (v1 := some (.int 1)) (v2 := some (.int 0)) (h1' := mk M T) (h2' := mk M T) (pc' := 21) (st1 := [.int 1]) (st2 := [.int 0]) rfl rfl rfl rfl rfl rfl (c_hasHeir hH h6) (fun g1 => ?_) (fun g1 => ?_)
  · refine R_go 2 (pc' := 31) (L' := [some (.ref 3), some (.int (nI n)), some (.int (nI e)), some (.ref (3 + n + 3)), none]) (st' := [.ref (3 + n + 3)]) (h' := mk M T) (fun _ => rfl) ?_
    refine R_getI (i := 107) (j := 5) (c := 3 + n) (sh_pane (by omega)) rfl rfl rfl ?_
    refine R_go 3 (pc' := 38) (L' := [some (.ref 3), some (.int (nI n)), some (.int (nI e)), some (.ref (3 + n + 3)), some (.int (M (3 + n) 5))]) (st' := [.int (nI e), .ref (3 + n + 3)]) (h' := mk M T) (fun _ => rfl) ?_
    refine R_putI (i := 107) (j := 5) (c := 3 + n) (sh_pane (by omega)) rfl rfl rfl ?_
    refine R_ret 2 (pcr := 43) (v := some (.int (M (3 + n) 5))) (h' := mk (up M (3 + n) 5 (nI e)) T) (fun _ => rfl) ?_
    exact ⟨rfl, rfl⟩
  · exact absurd (⟨nI_pos' (by omega), nI_lt he (by omega)⟩) g1
set_option maxRecDepth 100000 in
set_option maxHeartbeats 4000000 in
theorem m_names_i {ro : xRO} {d : Nat} {M : xM} {T : Nat} {P : Nat} (hP : M 62 6 = nI P) (h8 : P ≤ 8) {H : Nat} (hH : M 62 7 = nI H) (h6 : H ≤ 6) {n : Nat} (hn : n < P) {e : Nat} (he : e < H) : Rn ro (d + 90) M_X8_names 0 [some (.ref 64), some (.int (nI n)), some (.int (nI e))] [] (mk M T) (fun r h => r = some (.int (M 62 (10 + 7 * n + 5))) ∧ h = mk (up M 62 (10 + 7 * n + 5) (nI e)) T) := by
  refine R_go 2 (pc' := 2) (L' := [some (.ref 64), some (.int (nI n)), some (.int (nI e))]) (st' := [.int (nI n), .ref 64]) (h' := mk M T) (fun _ => rfl) ?_
  refine R_call2 (i := .invokevirtual 92) (kd := 0) (y := M_X8_isPane) (as := [.ref 64, .int (nI n)]) (r := []) (L0 := [some (.ref 64), some (.int (nI n))]) (v1 := some (.int 1)) (v2 := some (.int 0)) (h1' := mk M T) (h2' := mk M T) (pc' := 5) (st1 := [.int 1]) (st2 := [.int 0]) rfl rfl rfl rfl rfl rfl (m_isPane hP h8) (fun g1 => ?_) (fun g1 => ?_)
  · refine R_go 3 (pc' := 10) (L' := [some (.ref 64), some (.int (nI n)), some (.int (nI e))]) (st' := [.int (nI e), .ref 64]) (h' := mk M T) (fun _ => rfl) ?_
    refine R_call2 (i := .invokevirtual 88) (kd := 0) (y := M_X8_isHeir) (as := [.ref 64, .int (nI e)]) (r := []) (L0 := [some (.ref 64), some (.int (nI e))]) (v1 := some (.int 1)) (v2 := some (.int 0)) (h1' := mk M T) (h2' := mk M T) (pc' := 13) (st1 := [.int 1]) (st2 := [.int 0]) rfl rfl rfl rfl rfl rfl (m_isHeir hH h6) (fun g2 => ?_) (fun g2 => ?_)
    · refine R_go 6 (pc' := 23) (L' := [some (.ref 64), some (.int (nI n)), some (.int (nI e))]) (st' := [.int (7 * nI n), .int 10, .ref 64]) (h' := mk M T) (fun _ => rfl) ?_
      refine R_top (pk_mul 7 n) ?_
      refine R_go 1 (pc' := 24) (L' := [some (.ref 64), some (.int (nI n)), some (.int (nI e))]) (st' := [.int (10 + nI (7 * n)), .ref 64]) (h' := mk M T) (fun _ => rfl) ?_
      refine R_top (nI_add 10 (7 * n)) ?_
      refine R_go 2 (pc' := 26) (L' := [some (.ref 64), some (.int (nI n)), some (.int (nI e))]) (st' := [.int (nI (10 + (7 * n)) + 5), .ref 64]) (h' := mk M T) (fun _ => rfl) ?_
      refine R_top (nI_add (10 + (7 * n)) 5) ?_
      refine R_go 1 (pc' := 27) (L' := [some (.ref 64), some (.int (nI n)), some (.int (nI e))]) (st' := [.int (nI e), .int (nI ((10 + (7 * n)) + 5)), .ref 64]) (h' := mk M T) (fun _ => rfl) ?_
      refine R_callD (i := .invokevirtual 95) (kd := 0) (y := M_X8_becomes) (as := [.ref 64, .int (nI ((10 + (7 * n)) + 5)), .int (nI e)]) (r := []) (L0 := [some (.ref 64), some (.int (nI ((10 + (7 * n)) + 5))), some (.int (nI e)), none]) (v := some (.int (M 62 ((10 + (7 * n)) + 5)))) (h' := mk (up M 62 ((10 + (7 * n)) + 5) (nI e)) T) (pc' := 30) (st' := [.int (M 62 ((10 + (7 * n)) + 5))]) rfl rfl rfl rfl rfl rfl (m_becomes (j := ((10 + (7 * n)) + 5)) (by omega)) ?_
      refine R_ret 2 (pcr := 39) (v := some (.int (M 62 ((10 + (7 * n)) + 5)))) (h' := mk (up M 62 ((10 + (7 * n)) + 5) (nI e)) T) (fun _ => rfl) ?_
      exact ⟨rfl, rfl⟩
    · exact absurd (⟨nI_pos' (by omega), nI_lt he (by omega)⟩) g2
  · exact absurd (⟨nI_pos' (by omega), nI_lt hn (by omega)⟩) g1
set_option maxRecDepth 100000 in
set_option maxHeartbeats 4000000 in
theorem x_names_b {ro : xRO} {d : Nat} {M : xM} {T : Nat} {P : Nat} (hP : M 1 6 = nI P) (h8 : P ≤ 8) {H : Nat} (hH : M 1 7 = nI H) (h6 : H ≤ 6) {n : Nat} (hn : n < P) {v : Int32} (hv : ¬ (0 ≤ v ∧ v < nI H)) : Rn ro (d + 90) M_X7_names 0 [some (.ref 3), some (.int (nI n)), some (.int v), none, none] [] (mk M T) (fun r h => r = some (.int (-1000000001)) ∧ h = mk (up M 60 1 (M 60 1 + 1)) T) := by
  refine R_go 3 (pc' := 5) (L' := [some (.ref 3), some (.int (nI n)), some (.int v), none, none]) (st' := [.int (nI n), .ref 4]) (h' := mk M T) (fun _ => rfl) ?_
  refine R_callD (i := .invokevirtual 116) (kd := 0) (y := M_X0_paneAt) (as := [.ref 4, .int (nI n)]) (r := []) (L0 := [some (.ref 4), some (.int (nI n))]) (v := some (.ref (3 + n + 3))) (h' := mk M T) (pc' := 8) (st' := [.ref (3 + n + 3)]) rfl rfl rfl rfl rfl rfl (c_paneAt_in hP h8 hn) ?_
  refine R_go 6 (pc' := 18) (L' := [some (.ref 3), some (.int (nI n)), some (.int v), some (.ref (3 + n + 3)), none]) (st' := [.int v, .ref 4]) (h' := mk M T) (fun _ => rfl) ?_
  refine R_call2 (i := .invokevirtual 82) (kd := 0) (y := M_X0_hasHeir) (as := [.ref 4, .int v]) (r := []) (L0 := [some (.ref 4), some (.int v)]) (v1 := some (.int 1)) (v2 := some (.int 0)) (h1' := mk M T) (h2' := mk M T) (pc' := 21) (st1 := [.int 1]) (st2 := [.int 0]) rfl rfl rfl rfl rfl rfl (c_hasHeir hH h6) (fun g1 => ?_) (fun g1 => ?_)
  · exact absurd g1 (hv)
  · refine R_go 3 (pc' := 26) (L' := [some (.ref 3), some (.int (nI n)), some (.int v), some (.ref (3 + n + 3)), none]) (st' := [.int 1, .ref 3]) (h' := mk M T) (fun _ => rfl) ?_
    refine R_callD (i := .invokevirtual 75) (kd := 0) (y := M_X7_error) (as := [.ref 3, .int 1]) (r := []) (L0 := [some (.ref 3), some (.int 1)]) (v := some (.int (-1000000001))) (h' := mk (up M 60 1 (M 60 1 + 1)) T) (pc' := 29) (st' := [.int (-1000000001)]) rfl rfl rfl rfl rfl rfl (c_error_1) ?_
    refine R_ret 1 (pcr := 29) (v := some (.int (-1000000001))) (h' := mk (up M 60 1 (M 60 1 + 1)) T) (fun _ => rfl) ?_
    exact ⟨rfl, rfl⟩
set_option maxRecDepth 100000 in
set_option maxHeartbeats 4000000 in
theorem m_names_b {ro : xRO} {d : Nat} {M : xM} {T : Nat} {P : Nat} (hP : M 62 6 = nI P) (h8 : P ≤ 8) {H : Nat} (hH : M 62 7 = nI H) (h6 : H ≤ 6) {n : Nat} (hn : n < P) {v : Int32} (hv : ¬ (0 ≤ v ∧ v < nI H)) : Rn ro (d + 90) M_X8_names 0 [some (.ref 64), some (.int (nI n)), some (.int v)] [] (mk M T) (fun r h => r = some (.int (-1000000001)) ∧ h = mk (up M 64 1 (M 64 1 + 1)) T) := by
  refine R_go 2 (pc' := 2) (L' := [some (.ref 64), some (.int (nI n)), some (.int v)]) (st' := [.int (nI n), .ref 64]) (h' := mk M T) (fun _ => rfl) ?_
  refine R_call2 (i := .invokevirtual 92) (kd := 0) (y := M_X8_isPane) (as := [.ref 64, .int (nI n)]) (r := []) (L0 := [some (.ref 64), some (.int (nI n))]) (v1 := some (.int 1)) (v2 := some (.int 0)) (h1' := mk M T) (h2' := mk M T) (pc' := 5) (st1 := [.int 1]) (st2 := [.int 0]) rfl rfl rfl rfl rfl rfl (m_isPane hP h8) (fun g1 => ?_) (fun g1 => ?_)
  · refine R_go 3 (pc' := 10) (L' := [some (.ref 64), some (.int (nI n)), some (.int v)]) (st' := [.int v, .ref 64]) (h' := mk M T) (fun _ => rfl) ?_
    refine R_call2 (i := .invokevirtual 88) (kd := 0) (y := M_X8_isHeir) (as := [.ref 64, .int v]) (r := []) (L0 := [some (.ref 64), some (.int v)]) (v1 := some (.int 1)) (v2 := some (.int 0)) (h1' := mk M T) (h2' := mk M T) (pc' := 13) (st1 := [.int 1]) (st2 := [.int 0]) rfl rfl rfl rfl rfl rfl (m_isHeir hH h6) (fun g2 => ?_) (fun g2 => ?_)
    · exact absurd g2 (hv)
    · refine R_go 3 (pc' := 36) (L' := [some (.ref 64), some (.int (nI n)), some (.int v)]) (st' := [.int (-1000000001), .ref 64]) (h' := mk M T) (fun _ => rfl) ?_
      refine R_callD (i := .invokevirtual 81) (kd := 0) (y := M_X8_error) (as := [.ref 64, .int (-1000000001)]) (r := []) (L0 := [some (.ref 64), some (.int (-1000000001))]) (v := some (.int (-1000000001))) (h' := mk (up M 64 1 (M 64 1 + 1)) T) (pc' := 39) (st' := [.int (-1000000001)]) rfl rfl rfl rfl rfl rfl (m_error_1) ?_
      refine R_ret 1 (pcr := 39) (v := some (.int (-1000000001))) (h' := mk (up M 64 1 (M 64 1 + 1)) T) (fun _ => rfl) ?_
      exact ⟨rfl, rfl⟩
  · exact absurd (⟨nI_pos' (by omega), nI_lt hn (by omega)⟩) g1
set_option maxHeartbeats 4000000 in
theorem op_names {ro : xRO} {M : xM} {T : Nat} (h : Rel M) {i v : Int32} : OpOK ro M_X7_names M_X8_names [some (.ref 3), some (.int i), some (.int v), none, none] [some (.ref 64), some (.int i), some (.int v)] M T := by
  obtain ⟨P, H, h8, h6, pm, hm, px, hx, a, b1, b2, b3, b4, c2, c3, c4, c5⟩ := rel_all h
  rcases nI_cases i P (by omega) with ⟨n, hn, rfl⟩ | hi
  · rcases nI_cases v H (by omega) with ⟨e, he, rfl⟩ | hv
    · have iv : iN (nI e) 5 := ⟨e, by omega, rfl⟩
      have bn := b1 n 5 (by omega) (by omega)
      refine OpOK.of (fun d => x_names_i px h8 hx h6 hn he) (fun d => m_names_i (M := up M (3 + n) 5 (nI e)) (by simp only [up_rd]; grind) h8 (by simp only [up_rd]; grind) h6 hn he) (by simp only [up_rd]; grind) ?_
      refine h.now ?_ ?_ ?_ ?_ ?_ ?_ ?_ P H ?_ ?_ ?_ ?_ ?_
      · intro c x y; simp only [up_ne x, up_ne (show c ≠ 1 from fun q => y (by omega)), up_ne (show c ≠ 11 from fun q => y (by omega)), up_ne (show c ≠ 12 from fun q => y (by omega)), up_ne (show c ≠ 13 from fun q => y (by omega)), up_ne (show c ≠ 3 + n from fun q => y (by omega))]
      · intro j hj; simp only [up_rd]; grind
      · unfold hsA; simp only [up_rd]; grind
      · intro p j hp hj; have := b1 p j hp hj; simp only [up_rd]; grind
      · intro i hi; have := b2 i hi; have := c5 i hi; simp only [up_rd]; grind
      · intro i hi; have := b3 i hi; simp only [up_rd]; grind
      · intro i hi; have := b4 i hi; simp only [up_rd]; grind
      · unfold rwA; simp only [up_rd]; grind
      · unfold rwB; simp only [up_rd]; grind
      · intro p hp; have := c3 p hp; simp only [up_rd]; grind
      · intro p hp; obtain ⟨he', e1, e2⟩ := c4 p (by omega); by_cases hpn : p = n
        · subst hpn; exact ⟨e, he, by simp only [up_rd]; grind⟩
        · exact ⟨he', by omega, by simp only [up_rd]; grind⟩
      · intro i hi; have := c5 i hi; have : iN 0 99999 := ⟨0, by omega, rfl⟩; simp only [up_rd]; grind
    · exact OpOK.of (fun d => x_names_b px h8 hx h6 hn hv) (fun d => m_names_b (M := up M 60 1 (M 60 1 + 1)) pm h8 hm h6 hn hv) rfl (h.err 1 (by omega))
  · exact OpOK.of (fun d => x_names_o px h8 hi) (fun d => m_names_o (M := up M 60 1 (M 60 1 + 1)) pm h8 hi) rfl (h.err 1 (by omega))
set_option maxRecDepth 100000 in
set_option maxHeartbeats 4000000 in
theorem x_become_o {ro : xRO} {d : Nat} {M : xM} {T : Nat} {P : Nat} (hP : M 1 6 = nI P) (h8 : P ≤ 8) {i : Int32} (hi : ¬ (0 ≤ i ∧ i < nI P)) {v : Int32} : Rn ro (d + 90) M_X7_become 0 [some (.ref 3), some (.int i), some (.int v), none, none] [] (mk M T) (fun r h => r = some (.int (-1000000001)) ∧ h = mk (up M 60 1 (M 60 1 + 1)) T) := by
  refine R_go 3 (pc' := 5) (L' := [some (.ref 3), some (.int i), some (.int v), none, none]) (st' := [.int i, .ref 4]) (h' := mk M T) (fun _ => rfl) ?_
  refine R_callD (i := .invokevirtual 116) (kd := 0) (y := M_X0_paneAt) (as := [.ref 4, .int i]) (r := []) (L0 := [some (.ref 4), some (.int i)]) (v := some (.null)) (h' := mk M T) (pc' := 8) (st' := [.null]) rfl rfl rfl rfl rfl rfl (c_paneAt_out hP h8 hi) ?_
  refine R_go 5 (pc' := 25) (L' := [some (.ref 3), some (.int i), some (.int v), some (.null), none]) (st' := [.int 1, .ref 3]) (h' := mk M T) (fun _ => rfl) ?_
  refine R_callD (i := .invokevirtual 75) (kd := 0) (y := M_X7_error) (as := [.ref 3, .int 1]) (r := []) (L0 := [some (.ref 3), some (.int 1)]) (v := some (.int (-1000000001))) (h' := mk (up M 60 1 (M 60 1 + 1)) T) (pc' := 28) (st' := [.int (-1000000001)]) rfl rfl rfl rfl rfl rfl (c_error_1) ?_
  refine R_ret 1 (pcr := 28) (v := some (.int (-1000000001))) (h' := mk (up M 60 1 (M 60 1 + 1)) T) (fun _ => rfl) ?_
  exact ⟨rfl, rfl⟩
set_option maxRecDepth 100000 in
set_option maxHeartbeats 4000000 in
theorem m_become_o {ro : xRO} {d : Nat} {M : xM} {T : Nat} {P : Nat} (hP : M 62 6 = nI P) (h8 : P ≤ 8) {i : Int32} (hi : ¬ (0 ≤ i ∧ i < nI P)) {v : Int32} : Rn ro (d + 90) M_X8_become 0 [some (.ref 64), some (.int i), some (.int v)] [] (mk M T) (fun r h => r = some (.int (-1000000001)) ∧ h = mk (up M 64 1 (M 64 1 + 1)) T) := by
  refine R_go 2 (pc' := 2) (L' := [some (.ref 64), some (.int i), some (.int v)]) (st' := [.int i, .ref 64]) (h' := mk M T) (fun _ => rfl) ?_
  refine R_call2 (i := .invokevirtual 92) (kd := 0) (y := M_X8_isPane) (as := [.ref 64, .int i]) (r := []) (L0 := [some (.ref 64), some (.int i)]) (v1 := some (.int 1)) (v2 := some (.int 0)) (h1' := mk M T) (h2' := mk M T) (pc' := 5) (st1 := [.int 1]) (st2 := [.int 0]) rfl rfl rfl rfl rfl rfl (m_isPane hP h8) (fun g1 => ?_) (fun g1 => ?_)
  · exact absurd g1 (hi)
  · refine R_go 3 (pc' := 18) (L' := [some (.ref 64), some (.int i), some (.int v)]) (st' := [.int (-1000000001), .ref 64]) (h' := mk M T) (fun _ => rfl) ?_
    refine R_callD (i := .invokevirtual 81) (kd := 0) (y := M_X8_error) (as := [.ref 64, .int (-1000000001)]) (r := []) (L0 := [some (.ref 64), some (.int (-1000000001))]) (v := some (.int (-1000000001))) (h' := mk (up M 64 1 (M 64 1 + 1)) T) (pc' := 21) (st' := [.int (-1000000001)]) rfl rfl rfl rfl rfl rfl (m_error_1) ?_
    refine R_ret 1 (pcr := 21) (v := some (.int (-1000000001))) (h' := mk (up M 64 1 (M 64 1 + 1)) T) (fun _ => rfl) ?_
    exact ⟨rfl, rfl⟩
set_option maxRecDepth 100000 in
set_option maxHeartbeats 4000000 in
theorem m_isKm_i {ro : xRO} {d : Nat} {M : xM} {T : Nat} {c : Nat} (hc : c ≤ 69) : Rn ro (d + 1) M_X8_isKm 0 [some (.int (nI c))] [] (mk M T) (fun r h => r = some (.int 1) ∧ h = mk M T) := by
  refine R_go 3 (pc' := 4) (L' := [some (.int (nI c))]) (st' := [.int 69, .int 0, .int (nI c)]) (h' := mk M T) (fun _ => rfl) ?_
  refine R_call2 (i := .invokestatic 53) (kd := 1) (y := M_X8_in) (as := [.int (nI c), .int 0, .int 69]) (r := []) (L0 := [some (.int (nI c)), some (.int 0), some (.int 69)]) (v1 := some (.int 1)) (v2 := some (.int 0)) (h1' := mk M T) (h2' := mk M T) (pc' := 7) (st1 := [.int 1]) (st2 := [.int 0]) rfl rfl rfl rfl rfl rfl (m_in) (fun g1 => ?_) (fun g1 => ?_)
  · refine R_ret 1 (pcr := 7) (v := some (.int 1)) (h' := mk M T) (fun _ => rfl) ?_
    exact ⟨rfl, rfl⟩
  · exact absurd (nI_in2 (a := 0) (b := 69) (by omega) hc (by omega)) g1
set_option maxRecDepth 100000 in
set_option maxHeartbeats 4000000 in
theorem x_become_i {ro : xRO} {d : Nat} {M : xM} {T : Nat} {P : Nat} (hP : M 1 6 = nI P) (h8 : P ≤ 8) {n : Nat} (hn : n < P) {c : Nat} (hc : c ≤ 69) : Rn ro (d + 90) M_X7_become 0 [some (.ref 3), some (.int (nI n)), some (.int (nI c)), none, none] [] (mk M T) (fun r h => r = some (.int (M (3 + n) 0)) ∧ h = mk (up (up M (3 + n) 0 (nI (c / 10))) (3 + n) 1 (nI (c % 10))) T) := by
  refine R_go 3 (pc' := 5) (L' := [some (.ref 3), some (.int (nI n)), some (.int (nI c)), none, none]) (st' := [.int (nI n), .ref 4]) (h' := mk M T) (fun _ => rfl) ?_
  refine R_callD (i := .invokevirtual 116) (kd := 0) (y := M_X0_paneAt) (as := [.ref 4, .int (nI n)]) (r := []) (L0 := [some (.ref 4), some (.int (nI n))]) (v := some (.ref (3 + n + 3))) (h' := mk M T) (pc' := 8) (st' := [.ref (3 + n + 3)]) rfl rfl rfl rfl rfl rfl (c_paneAt_in hP h8 hn) ?_
  refine R_go 6 (pc' := 17) (L' := [some (.ref 3), some (.int (nI n)), some (.int (nI c)), some (.ref (3 + n + 3)), none]) (st' := [.int 69, .int 0, .int (nI c)]) (h' := mk M T) (fun _ => rfl) ?_
  refine R_call2 (i := .invokestatic 78) (kd := 1) (y := M_X7_within) (as := [.int (nI c), .int 0, .int 69]) (r := []) (L0 := [some (.int (nI c)), some (.int 0), some (.int 69)]) (v1 := some (.int 1)) (v2 := some (.int 0)) (h1' := mk M T) (h2' := mk M T) (pc' := 20) (st1 := [.int 1]) (st2 := [.int 0]) rfl rfl rfl rfl rfl rfl (c_within) (fun g1 => ?_) (fun g1 => ?_)
  · refine R_go 2 (pc' := 30) (L' := [some (.ref 3), some (.int (nI n)), some (.int (nI c)), some (.ref (3 + n + 3)), none]) (st' := [.ref (3 + n + 3)]) (h' := mk M T) (fun _ => rfl) ?_
    refine R_getI (i := 90) (j := 0) (c := 3 + n) (sh_pane (by omega)) rfl rfl rfl ?_
    refine R_go 5 (pc' := 40) (L' := [some (.ref 3), some (.int (nI n)), some (.int (nI c)), some (.ref (3 + n + 3)), some (.int (M (3 + n) 0))]) (st' := [.int ((nI c) / 10), .ref (3 + n + 3)]) (h' := mk M T) (fun _ => rfl) ?_
    refine R_top (pk_div (a := c) (d := 10) (by omega) (by omega) (by omega)) ?_
    refine R_putI (i := 90) (j := 0) (c := 3 + n) (sh_pane (by omega)) rfl rfl rfl ?_
    refine R_go 4 (pc' := 48) (L' := [some (.ref 3), some (.int (nI n)), some (.int (nI c)), some (.ref (3 + n + 3)), some (.int (M (3 + n) 0))]) (st' := [.int ((nI c) - (nI c) / 10 * 10), .ref (3 + n + 3)]) (h' := mk (up M (3 + n) 0 (nI (c / 10))) T) (fun _ => rfl) ?_
    refine R_top (pk_rem (a := c) (d := 10) (by omega) (by omega) (by omega)) ?_
    refine R_putI (i := 95) (j := 1) (c := 3 + n) (sh_pane (by omega)) rfl rfl rfl ?_
    refine R_ret 2 (pcr := 53) (v := some (.int (M (3 + n) 0))) (h' := mk (up (up M (3 + n) 0 (nI (c / 10))) (3 + n) 1 (nI (c % 10))) T) (fun _ => rfl) ?_
    exact ⟨rfl, rfl⟩
  · exact absurd (nI_in2 (a := 0) (b := 69) (by omega) hc (by omega)) g1
set_option maxRecDepth 100000 in
set_option maxHeartbeats 4000000 in
theorem m_become_i {ro : xRO} {d : Nat} {M : xM} {T : Nat} {P : Nat} (hP : M 62 6 = nI P) (h8 : P ≤ 8) {n : Nat} (hn : n < P) {c : Nat} (hc : c ≤ 69) : Rn ro (d + 90) M_X8_become 0 [some (.ref 64), some (.int (nI n)), some (.int (nI c))] [] (mk M T) (fun r h => r = some (.int ((up M 62 (10 + 7 * n + 1) (nI (c % 10))) 62 (10 + 7 * n))) ∧ h = mk (up (up M 62 (10 + 7 * n + 1) (nI (c % 10))) 62 (10 + 7 * n) (nI (c / 10))) T) := by
  refine R_go 2 (pc' := 2) (L' := [some (.ref 64), some (.int (nI n)), some (.int (nI c))]) (st' := [.int (nI n), .ref 64]) (h' := mk M T) (fun _ => rfl) ?_
  refine R_call2 (i := .invokevirtual 92) (kd := 0) (y := M_X8_isPane) (as := [.ref 64, .int (nI n)]) (r := []) (L0 := [some (.ref 64), some (.int (nI n))]) (v1 := some (.int 1)) (v2 := some (.int 0)) (h1' := mk M T) (h2' := mk M T) (pc' := 5) (st1 := [.int 1]) (st2 := [.int 0]) rfl rfl rfl rfl rfl rfl (m_isPane hP h8) (fun g1 => ?_) (fun g1 => ?_)
  · refine R_go 2 (pc' := 9) (L' := [some (.ref 64), some (.int (nI n)), some (.int (nI c))]) (st' := [.int (nI c)]) (h' := mk M T) (fun _ => rfl) ?_
    refine R_callD (i := .invokestatic 84) (kd := 1) (y := M_X8_isKm) (as := [.int (nI c)]) (r := []) (L0 := [some (.int (nI c))]) (v := some (.int 1)) (h' := mk M T) (pc' := 12) (st' := [.int 1]) rfl rfl rfl rfl rfl rfl (m_isKm_i hc) ?_
    refine R_go 7 (pc' := 32) (L' := [some (.ref 64), some (.int (nI n)), some (.int (nI c))]) (st' := [.int (7 * nI n), .int 10, .ref 65]) (h' := mk M T) (fun _ => rfl) ?_
    refine R_top (pk_mul 7 n) ?_
    refine R_go 1 (pc' := 33) (L' := [some (.ref 64), some (.int (nI n)), some (.int (nI c))]) (st' := [.int (10 + nI (7 * n)), .ref 65]) (h' := mk M T) (fun _ => rfl) ?_
    refine R_top (nI_add 10 (7 * n)) ?_
    refine R_go 2 (pc' := 35) (L' := [some (.ref 64), some (.int (nI n)), some (.int (nI c))]) (st' := [.int (nI (10 + (7 * n)) + 1), .ref 65]) (h' := mk M T) (fun _ => rfl) ?_
    refine R_top (nI_add (10 + (7 * n)) 1) ?_
    refine R_go 3 (pc' := 39) (L' := [some (.ref 64), some (.int (nI n)), some (.int (nI c))]) (st' := [.int ((nI c) - (nI c) / 10 * 10), .int (nI ((10 + (7 * n)) + 1)), .ref 65]) (h' := mk M T) (fun _ => rfl) ?_
    refine R_top (pk_rem (a := c) (d := 10) (by omega) (by omega) (by omega)) ?_
    refine R_iast (c := 62) (n := 398) (j := (10 + (7 * n)) + 1) rfl rfl (by omega) (by decide) ?_
    refine R_go 5 (pc' := 47) (L' := [some (.ref 64), some (.int (nI n)), some (.int (nI c))]) (st' := [.int (7 * nI n), .int 10, .ref 64]) (h' := mk (up M 62 ((10 + (7 * n)) + 1) (nI (c % 10))) T) (fun _ => rfl) ?_
    refine R_top (pk_mul 7 n) ?_
    refine R_go 1 (pc' := 48) (L' := [some (.ref 64), some (.int (nI n)), some (.int (nI c))]) (st' := [.int (10 + nI (7 * n)), .ref 64]) (h' := mk (up M 62 ((10 + (7 * n)) + 1) (nI (c % 10))) T) (fun _ => rfl) ?_
    refine R_top (nI_add 10 (7 * n)) ?_
    refine R_go 3 (pc' := 52) (L' := [some (.ref 64), some (.int (nI n)), some (.int (nI c))]) (st' := [.int ((nI c) / 10), .int (nI (10 + (7 * n))), .ref 64]) (h' := mk (up M 62 ((10 + (7 * n)) + 1) (nI (c % 10))) T) (fun _ => rfl) ?_
    refine R_top (pk_div (a := c) (d := 10) (by omega) (by omega) (by omega)) ?_
    refine R_callD (i := .invokevirtual 95) (kd := 0) (y := M_X8_becomes) (as := [.ref 64, .int (nI (10 + (7 * n))), .int (nI (c / 10))]) (r := []) (L0 := [some (.ref 64), some (.int (nI (10 + (7 * n)))), some (.int (nI (c / 10))), none]) (v := some (.int ((up M 62 ((10 + (7 * n)) + 1) (nI (c % 10))) 62 (10 + (7 * n))))) (h' := mk (up (up M 62 ((10 + (7 * n)) + 1) (nI (c % 10))) 62 (10 + (7 * n)) (nI (c / 10))) T) (pc' := 55) (st' := [.int ((up M 62 ((10 + (7 * n)) + 1) (nI (c % 10))) 62 (10 + (7 * n)))]) rfl rfl rfl rfl rfl rfl (m_becomes (j := (10 + (7 * n))) (by omega)) ?_
    refine R_ret 1 (pcr := 55) (v := some (.int ((up M 62 ((10 + (7 * n)) + 1) (nI (c % 10))) 62 (10 + (7 * n))))) (h' := mk (up (up M 62 ((10 + (7 * n)) + 1) (nI (c % 10))) 62 (10 + (7 * n)) (nI (c / 10))) T) (fun _ => rfl) ?_
    exact ⟨rfl, rfl⟩
  · exact absurd (⟨nI_pos' (by omega), nI_lt hn (by omega)⟩) g1
set_option maxRecDepth 100000 in
set_option maxHeartbeats 4000000 in
theorem m_isKm_b {ro : xRO} {d : Nat} {M : xM} {T : Nat} {v : Int32} (hv : ¬ (0 ≤ v ∧ v ≤ 69)) : Rn ro (d + 1) M_X8_isKm 0 [some (.int v)] [] (mk M T) (fun r h => r = some (.int 0) ∧ h = mk M T) := by
  refine R_go 3 (pc' := 4) (L' := [some (.int v)]) (st' := [.int 69, .int 0, .int v]) (h' := mk M T) (fun _ => rfl) ?_
  refine R_call2 (i := .invokestatic 53) (kd := 1) (y := M_X8_in) (as := [.int v, .int 0, .int 69]) (r := []) (L0 := [some (.int v), some (.int 0), some (.int 69)]) (v1 := some (.int 1)) (v2 := some (.int 0)) (h1' := mk M T) (h2' := mk M T) (pc' := 7) (st1 := [.int 1]) (st2 := [.int 0]) rfl rfl rfl rfl rfl rfl (m_in) (fun g1 => ?_) (fun g1 => ?_)
  · exact absurd g1 (hv)
  · refine R_ret 1 (pcr := 7) (v := some (.int 0)) (h' := mk M T) (fun _ => rfl) ?_
    exact ⟨rfl, rfl⟩
set_option maxRecDepth 100000 in
set_option maxHeartbeats 4000000 in
theorem x_become_b {ro : xRO} {d : Nat} {M : xM} {T : Nat} {P : Nat} (hP : M 1 6 = nI P) (h8 : P ≤ 8) {n : Nat} (hn : n < P) {v : Int32} (hv : ¬ (0 ≤ v ∧ v ≤ 69)) : Rn ro (d + 90) M_X7_become 0 [some (.ref 3), some (.int (nI n)), some (.int v), none, none] [] (mk M T) (fun r h => r = some (.int (-1000000001)) ∧ h = mk (up M 60 1 (M 60 1 + 1)) T) := by
  refine R_go 3 (pc' := 5) (L' := [some (.ref 3), some (.int (nI n)), some (.int v), none, none]) (st' := [.int (nI n), .ref 4]) (h' := mk M T) (fun _ => rfl) ?_
  refine R_callD (i := .invokevirtual 116) (kd := 0) (y := M_X0_paneAt) (as := [.ref 4, .int (nI n)]) (r := []) (L0 := [some (.ref 4), some (.int (nI n))]) (v := some (.ref (3 + n + 3))) (h' := mk M T) (pc' := 8) (st' := [.ref (3 + n + 3)]) rfl rfl rfl rfl rfl rfl (c_paneAt_in hP h8 hn) ?_
  refine R_go 6 (pc' := 17) (L' := [some (.ref 3), some (.int (nI n)), some (.int v), some (.ref (3 + n + 3)), none]) (st' := [.int 69, .int 0, .int v]) (h' := mk M T) (fun _ => rfl) ?_
  refine R_call2 (i := .invokestatic 78) (kd := 1) (y := M_X7_within) (as := [.int v, .int 0, .int 69]) (r := []) (L0 := [some (.int v), some (.int 0), some (.int 69)]) (v1 := some (.int 1)) (v2 := some (.int 0)) (h1' := mk M T) (h2' := mk M T) (pc' := 20) (st1 := [.int 1]) (st2 := [.int 0]) rfl rfl rfl rfl rfl rfl (c_within) (fun g1 => ?_) (fun g1 => ?_)
  · exact absurd g1 (hv)
  · refine R_go 3 (pc' := 25) (L' := [some (.ref 3), some (.int (nI n)), some (.int v), some (.ref (3 + n + 3)), none]) (st' := [.int 1, .ref 3]) (h' := mk M T) (fun _ => rfl) ?_
    refine R_callD (i := .invokevirtual 75) (kd := 0) (y := M_X7_error) (as := [.ref 3, .int 1]) (r := []) (L0 := [some (.ref 3), some (.int 1)]) (v := some (.int (-1000000001))) (h' := mk (up M 60 1 (M 60 1 + 1)) T) (pc' := 28) (st' := [.int (-1000000001)]) rfl rfl rfl rfl rfl rfl (c_error_1) ?_
    refine R_ret 1 (pcr := 28) (v := some (.int (-1000000001))) (h' := mk (up M 60 1 (M 60 1 + 1)) T) (fun _ => rfl) ?_
    exact ⟨rfl, rfl⟩
set_option maxRecDepth 100000 in
set_option maxHeartbeats 4000000 in
theorem m_become_b {ro : xRO} {d : Nat} {M : xM} {T : Nat} {P : Nat} (hP : M 62 6 = nI P) (h8 : P ≤ 8) {n : Nat} (hn : n < P) {v : Int32} (hv : ¬ (0 ≤ v ∧ v ≤ 69)) : Rn ro (d + 90) M_X8_become 0 [some (.ref 64), some (.int (nI n)), some (.int v)] [] (mk M T) (fun r h => r = some (.int (-1000000001)) ∧ h = mk (up M 64 1 (M 64 1 + 1)) T) := by
  refine R_go 2 (pc' := 2) (L' := [some (.ref 64), some (.int (nI n)), some (.int v)]) (st' := [.int (nI n), .ref 64]) (h' := mk M T) (fun _ => rfl) ?_
  refine R_call2 (i := .invokevirtual 92) (kd := 0) (y := M_X8_isPane) (as := [.ref 64, .int (nI n)]) (r := []) (L0 := [some (.ref 64), some (.int (nI n))]) (v1 := some (.int 1)) (v2 := some (.int 0)) (h1' := mk M T) (h2' := mk M T) (pc' := 5) (st1 := [.int 1]) (st2 := [.int 0]) rfl rfl rfl rfl rfl rfl (m_isPane hP h8) (fun g1 => ?_) (fun g1 => ?_)
  · refine R_go 2 (pc' := 9) (L' := [some (.ref 64), some (.int (nI n)), some (.int v)]) (st' := [.int v]) (h' := mk M T) (fun _ => rfl) ?_
    refine R_callD (i := .invokestatic 84) (kd := 1) (y := M_X8_isKm) (as := [.int v]) (r := []) (L0 := [some (.int v)]) (v := some (.int 0)) (h' := mk M T) (pc' := 12) (st' := [.int 0]) rfl rfl rfl rfl rfl rfl (m_isKm_b hv) ?_
    refine R_go 3 (pc' := 18) (L' := [some (.ref 64), some (.int (nI n)), some (.int v)]) (st' := [.int (-1000000001), .ref 64]) (h' := mk M T) (fun _ => rfl) ?_
    refine R_callD (i := .invokevirtual 81) (kd := 0) (y := M_X8_error) (as := [.ref 64, .int (-1000000001)]) (r := []) (L0 := [some (.ref 64), some (.int (-1000000001))]) (v := some (.int (-1000000001))) (h' := mk (up M 64 1 (M 64 1 + 1)) T) (pc' := 21) (st' := [.int (-1000000001)]) rfl rfl rfl rfl rfl rfl (m_error_1) ?_
    refine R_ret 1 (pcr := 21) (v := some (.int (-1000000001))) (h' := mk (up M 64 1 (M 64 1 + 1)) T) (fun _ => rfl) ?_
    exact ⟨rfl, rfl⟩
  · exact absurd (⟨nI_pos' (by omega), nI_lt hn (by omega)⟩) g1
set_option maxHeartbeats 4000000 in
theorem op_become {ro : xRO} {M : xM} {T : Nat} (h : Rel M) {i v : Int32} : OpOK ro M_X7_become M_X8_become [some (.ref 3), some (.int i), some (.int v), none, none] [some (.ref 64), some (.int i), some (.int v)] M T := by
  obtain ⟨P, H, h8, h6, pm, hm, px, hx, a, b1, b2, b3, b4, c2, c3, c4, c5⟩ := rel_all h
  rcases nI_cases i P (by omega) with ⟨n, hn, rfl⟩ | hi
  · rcases of_in v (b := 69) (by omega) with ⟨c, hc, rfl⟩ | hv
    · have iv : iN (nI (c / 10)) 6 := ⟨c / 10, by omega, rfl⟩
      have iw : iN (nI (c % 10)) 9 := ⟨c % 10, by omega, rfl⟩
      have bn := b1 n 0 (by omega) (by omega)
      refine OpOK.of (fun d => x_become_i px h8 hn hc) (fun d => m_become_i (M := up (up M (3 + n) 0 (nI (c / 10))) (3 + n) 1 (nI (c % 10))) (by simp only [up_rd]; grind) h8 hn hc) (by simp only [up_rd]; grind) ?_
      refine h.now ?_ ?_ ?_ ?_ ?_ ?_ ?_ P H ?_ ?_ ?_ ?_ ?_
      · intro c x y; simp only [up_ne x, up_ne (show c ≠ 1 from fun q => y (by omega)), up_ne (show c ≠ 11 from fun q => y (by omega)), up_ne (show c ≠ 12 from fun q => y (by omega)), up_ne (show c ≠ 13 from fun q => y (by omega)), up_ne (show c ≠ 3 + n from fun q => y (by omega))]
      · intro j hj; simp only [up_rd]; grind
      · unfold hsA; simp only [up_rd]; grind
      · intro p j hp hj; have := b1 p j hp hj; simp only [up_rd]; grind
      · intro i hi; have := b2 i hi; have := c5 i hi; simp only [up_rd]; grind
      · intro i hi; have := b3 i hi; simp only [up_rd]; grind
      · intro i hi; have := b4 i hi; simp only [up_rd]; grind
      · unfold rwA; simp only [up_rd]; grind
      · unfold rwB; simp only [up_rd]; grind
      · intro p hp; have := c3 p hp; simp only [up_rd]; grind
      · intro p hp; obtain ⟨he, e1, e2⟩ := c4 p (by omega); exact ⟨he, by omega, by simp only [up_rd]; grind⟩
      · intro i hi; have := c5 i hi; have : iN 0 99999 := ⟨0, by omega, rfl⟩; simp only [up_rd]; grind
    · exact OpOK.of (fun d => x_become_b px h8 hn hv) (fun d => m_become_b (M := up M 60 1 (M 60 1 + 1)) pm h8 hn hv) rfl (h.err 1 (by omega))
  · exact OpOK.of (fun d => x_become_o px h8 hi) (fun d => m_become_o (M := up M 60 1 (M 60 1 + 1)) pm h8 hi) rfl (h.err 1 (by omega))
