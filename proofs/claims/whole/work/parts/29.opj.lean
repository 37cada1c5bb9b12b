/-! OPERATION paneIs -/
set_option maxRecDepth 100000 in
set_option maxHeartbeats 4000000 in
theorem x_paneIs_o {ro : xRO} {d : Nat} {M : xM} {T : Nat} {P : Nat} (hP : M 1 6 = nI P) (h8 : P ≤ 8) {i : Int32} (hi : ¬ (0 ≤ i ∧ i < nI P)) {v : Int32} : Rn ro (d + 90) M_X7_paneIs 0 [some (.ref 3), some (.int i), some (.int v), none] [] (mk M T) (fun r h => r = some (.int (-1000000001)) ∧ h = mk (up M 60 1 (M 60 1 + 1)) T) := by
  refine R_go 3 (pc' := 5) (L' := [some (.ref 3), some (.int i), some (.int v), none]) (st' := [.int i, .ref 4]) (h' := mk M T) (fun _ => rfl) ?_
  refine R_callD (i := .invokevirtual 116) (kd := 0) (y := M_X0_paneAt) (as := [.ref 4, .int i]) (r := []) (L0 := [some (.ref 4), some (.int i)]) (v := some (.null)) (h' := mk M T) (pc' := 8) (st' := [.null]) rfl rfl rfl rfl rfl rfl (c_paneAt_out hP h8 hi) ?_
  refine R_go 5 (pc' := 15) (L' := [some (.ref 3), some (.int i), some (.int v), some (.null)]) (st' := [.int 1, .ref 3]) (h' := mk M T) (fun _ => rfl) ?_
  refine R_callD (i := .invokevirtual 75) (kd := 0) (y := M_X7_error) (as := [.ref 3, .int 1]) (r := []) (L0 := [some (.ref 3), some (.int 1)]) (v := some (.int (-1000000001))) (h' := mk (up M 60 1 (M 60 1 + 1)) T) (pc' := 18) (st' := [.int (-1000000001)]) rfl rfl rfl rfl rfl rfl (c_error_1) ?_
  refine R_ret 1 (pcr := 18) (v := some (.int (-1000000001))) (h' := mk (up M 60 1 (M 60 1 + 1)) T) (fun _ => rfl) ?_
  exact ⟨rfl, rfl⟩
set_option maxRecDepth 100000 in
set_option maxHeartbeats 4000000 in
theorem m_paneIs_o {ro : xRO} {d : Nat} {M : xM} {T : Nat} {P : Nat} (hP : M 62 6 = nI P) (h8 : P ≤ 8) {i : Int32} (hi : ¬ (0 ≤ i ∧ i < nI P)) {v : Int32} : Rn ro (d + 90) M_X8_paneIs 0 [some (.ref 64), some (.int i), some (.int v)] [] (mk M T) (fun r h => r = some (.int (-1000000001)) ∧ h = mk (up M 64 1 (M 64 1 + 1)) T) := by
  refine R_go 2 (pc' := 2) (L' := [some (.ref 64), some (.int i), some (.int v)]) (st' := [.int i, .ref 64]) (h' := mk M T) (fun _ => rfl) ?_
  refine R_call2 (i := .invokevirtual 92) (kd := 0) (y := M_X8_isPane) (as := [.ref 64, .int i]) (r := []) (L0 := [some (.ref 64), some (.int i)]) (v1 := some (.int 1)) (v2 := some (.int 0)) (h1' := mk M T) (h2' := mk M T) (pc' := 5) (st1 := [.int 1]) (st2 := [.int 0]) rfl rfl rfl rfl rfl rfl (m_isPane hP h8) (fun g1 => ?_) (fun g1 => ?_)
  · exact absurd g1 (hi)
  · refine R_go 3 (pc' := 21) (L' := [some (.ref 64), some (.int i), some (.int v)]) (st' := [.int (-1000000001), .ref 64]) (h' := mk M T) (fun _ => rfl) ?_
    refine R_callD (i := .invokevirtual 81) (kd := 0) (y := M_X8_error) (as := [.ref 64, .int (-1000000001)]) (r := []) (L0 := [some (.ref 64), some (.int (-1000000001))]) (v := some (.int (-1000000001))) (h' := mk (up M 64 1 (M 64 1 + 1)) T) (pc' := 24) (st' := [.int (-1000000001)]) rfl rfl rfl rfl rfl rfl (m_error_1) ?_
    refine R_ret 1 (pcr := 24) (v := some (.int (-1000000001))) (h' := mk (up M 64 1 (M 64 1 + 1)) T) (fun _ => rfl) ?_
    exact ⟨rfl, rfl⟩
set_option maxRecDepth 100000 in
set_option maxHeartbeats 4000000 in
theorem x_paneIs_0 {ro : xRO} {d : Nat} {M : xM} {T : Nat} {P : Nat} (hP : M 1 6 = nI P) (h8 : P ≤ 8) {n : Nat} (hn : n < P) : Rn ro (d + 90) M_X7_paneIs 0 [some (.ref 3), some (.int (nI n)), some (.int 0), none] [] (mk M T) (fun r h => r = some (.int (M (3 + n) 0)) ∧ h = mk M T) := by
  refine R_go 3 (pc' := 5) (L' := [some (.ref 3), some (.int (nI n)), some (.int 0), none]) (st' := [.int (nI n), .ref 4]) (h' := mk M T) (fun _ => rfl) ?_
  refine R_callD (i := .invokevirtual 116) (kd := 0) (y := M_X0_paneAt) (as := [.ref 4, .int (nI n)]) (r := []) (L0 := [some (.ref 4), some (.int (nI n))]) (v := some (.ref (3 + n + 3))) (h' := mk M T) (pc' := 8) (st' := [.ref (3 + n + 3)]) rfl rfl rfl rfl rfl rfl (c_paneAt_in hP h8 hn) ?_
  refine R_go 6 (pc' := 69) (L' := [some (.ref 3), some (.int (nI n)), some (.int 0), some (.ref (3 + n + 3))]) (st' := [.ref (3 + n + 3)]) (h' := mk M T) (fun _ => rfl) ?_
  refine R_getI (i := 90) (j := 0) (c := 3 + n) (sh_pane (by omega)) rfl rfl rfl ?_
  refine R_ret 1 (pcr := 72) (v := some (.int (M (3 + n) 0))) (h' := mk M T) (fun _ => rfl) ?_
  exact ⟨rfl, rfl⟩
set_option maxRecDepth 100000 in
set_option maxHeartbeats 4000000 in
theorem m_paneIs_0 {ro : xRO} {d : Nat} {M : xM} {T : Nat} {P : Nat} (hP : M 62 6 = nI P) (h8 : P ≤ 8) {n : Nat} (hn : n < P) : Rn ro (d + 90) M_X8_paneIs 0 [some (.ref 64), some (.int (nI n)), some (.int 0)] [] (mk M T) (fun r h => r = some (.int (M 62 (10 + 7 * n + 0))) ∧ h = mk M T) := by
  refine R_go 2 (pc' := 2) (L' := [some (.ref 64), some (.int (nI n)), some (.int 0)]) (st' := [.int (nI n), .ref 64]) (h' := mk M T) (fun _ => rfl) ?_
  refine R_call2 (i := .invokevirtual 92) (kd := 0) (y := M_X8_isPane) (as := [.ref 64, .int (nI n)]) (r := []) (L0 := [some (.ref 64), some (.int (nI n))]) (v1 := some (.int 1)) (v2 := some (.int 0)) (h1' := mk M T) (h2' := mk M T) (pc' := 5) (st1 := [.int 1]) (st2 := [.int 0]) rfl rfl rfl rfl rfl rfl (m_isPane hP h8) (fun g1 => ?_) (fun g1 => ?_)
  · refine R_go 4 (pc' := 12) (L' := [some (.ref 64), some (.int (nI n)), some (.int 0)]) (st' := [.int 7, .int 0, .int 0]) (h' := mk M T) (fun _ => rfl) ?_
    refine R_call2 (i := .invokestatic 53) (kd := 1) (y := M_X8_in) (as := [.int 0, .int 0, .int 7]) (r := []) (L0 := [some (.int 0), some (.int 0), some (.int 7)]) (v1 := some (.int 1)) (v2 := some (.int 0)) (h1' := mk M T) (h2' := mk M T) (pc' := 15) (st1 := [.int 1]) (st2 := [.int 0]) rfl rfl rfl rfl rfl rfl (m_in) (fun g2 => ?_) (fun g2 => ?_)
    · refine R_go 7 (pc' := 34) (L' := [some (.ref 64), some (.int (nI n)), some (.int 0)]) (st' := [.int 0, .int (nI n), .ref 64]) (h' := mk M T) (fun _ => rfl) ?_
      refine R_callD (i := .invokevirtual 57) (kd := 0) (y := M_X8_of) (as := [.ref 64, .int (nI n), .int 0]) (r := []) (L0 := [some (.ref 64), some (.int (nI n)), some (.int 0)]) (v := some (.int (M 62 (10 + 7 * n + 0)))) (h' := mk M T) (pc' := 37) (st' := [.int (M 62 (10 + 7 * n + 0))]) rfl rfl rfl rfl rfl rfl (m_of (p := n) (j := 0) (by omega) (by omega)) ?_
      refine R_ret 2 (pcr := 45) (v := some (.int (M 62 (10 + 7 * n + 0)))) (h' := mk M T) (fun _ => rfl) ?_
      exact ⟨rfl, rfl⟩
    · exact absurd ((by decide)) g2
  · exact absurd (⟨nI_pos' (by omega), nI_lt hn (by omega)⟩) g1
set_option maxRecDepth 100000 in
set_option maxHeartbeats 4000000 in
theorem x_paneIs_1 {ro : xRO} {d : Nat} {M : xM} {T : Nat} {P : Nat} (hP : M 1 6 = nI P) (h8 : P ≤ 8) {n : Nat} (hn : n < P) : Rn ro (d + 90) M_X7_paneIs 0 [some (.ref 3), some (.int (nI n)), some (.int 1), none] [] (mk M T) (fun r h => r = some (.int (M (3 + n) 1)) ∧ h = mk M T) := by
  refine R_go 3 (pc' := 5) (L' := [some (.ref 3), some (.int (nI n)), some (.int 1), none]) (st' := [.int (nI n), .ref 4]) (h' := mk M T) (fun _ => rfl) ?_
  refine R_callD (i := .invokevirtual 116) (kd := 0) (y := M_X0_paneAt) (as := [.ref 4, .int (nI n)]) (r := []) (L0 := [some (.ref 4), some (.int (nI n))]) (v := some (.ref (3 + n + 3))) (h' := mk M T) (pc' := 8) (st' := [.ref (3 + n + 3)]) rfl rfl rfl rfl rfl rfl (c_paneAt_in hP h8 hn) ?_
  refine R_go 6 (pc' := 74) (L' := [some (.ref 3), some (.int (nI n)), some (.int 1), some (.ref (3 + n + 3))]) (st' := [.ref (3 + n + 3)]) (h' := mk M T) (fun _ => rfl) ?_
  refine R_getI (i := 95) (j := 1) (c := 3 + n) (sh_pane (by omega)) rfl rfl rfl ?_
  refine R_ret 1 (pcr := 77) (v := some (.int (M (3 + n) 1))) (h' := mk M T) (fun _ => rfl) ?_
  exact ⟨rfl, rfl⟩
set_option maxRecDepth 100000 in
set_option maxHeartbeats 4000000 in
theorem m_paneIs_1 {ro : xRO} {d : Nat} {M : xM} {T : Nat} {P : Nat} (hP : M 62 6 = nI P) (h8 : P ≤ 8) {n : Nat} (hn : n < P) : Rn ro (d + 90) M_X8_paneIs 0 [some (.ref 64), some (.int (nI n)), some (.int 1)] [] (mk M T) (fun r h => r = some (.int (M 62 (10 + 7 * n + 1))) ∧ h = mk M T) := by
  refine R_go 2 (pc' := 2) (L' := [some (.ref 64), some (.int (nI n)), some (.int 1)]) (st' := [.int (nI n), .ref 64]) (h' := mk M T) (fun _ => rfl) ?_
  refine R_call2 (i := .invokevirtual 92) (kd := 0) (y := M_X8_isPane) (as := [.ref 64, .int (nI n)]) (r := []) (L0 := [some (.ref 64), some (.int (nI n))]) (v1 := some (.int 1)) (v2 := some (.int 0)) (h1' := mk M T) (h2' := mk M T) (pc' := 5) (st1 := [.int 1]) (st2 := [.int 0]) rfl rfl rfl rfl rfl rfl (m_isPane hP h8) (fun g1 => ?_) (fun g1 => ?_)
  · refine R_go 4 (pc' := 12) (L' := [some (.ref 64), some (.int (nI n)), some (.int 1)]) (st' := [.int 7, .int 0, .int 1]) (h' := mk M T) (fun _ => rfl) ?_
    refine R_call2 (i := .invokestatic 53) (kd := 1) (y := M_X8_in) (as := [.int 1, .int 0, .int 7]) (r := []) (L0 := [some (.int 1), some (.int 0), some (.int 7)]) (v1 := some (.int 1)) (v2 := some (.int 0)) (h1' := mk M T) (h2' := mk M T) (pc' := 15) (st1 := [.int 1]) (st2 := [.int 0]) rfl rfl rfl rfl rfl rfl (m_in) (fun g2 => ?_) (fun g2 => ?_)
    · refine R_go 7 (pc' := 34) (L' := [some (.ref 64), some (.int (nI n)), some (.int 1)]) (st' := [.int 1, .int (nI n), .ref 64]) (h' := mk M T) (fun _ => rfl) ?_
      refine R_callD (i := .invokevirtual 57) (kd := 0) (y := M_X8_of) (as := [.ref 64, .int (nI n), .int 1]) (r := []) (L0 := [some (.ref 64), some (.int (nI n)), some (.int 1)]) (v := some (.int (M 62 (10 + 7 * n + 1)))) (h' := mk M T) (pc' := 37) (st' := [.int (M 62 (10 + 7 * n + 1))]) rfl rfl rfl rfl rfl rfl (m_of (p := n) (j := 1) (by omega) (by omega)) ?_
      refine R_ret 2 (pcr := 45) (v := some (.int (M 62 (10 + 7 * n + 1)))) (h' := mk M T) (fun _ => rfl) ?_
      exact ⟨rfl, rfl⟩
    · exact absurd ((by decide)) g2
  · exact absurd (⟨nI_pos' (by omega), nI_lt hn (by omega)⟩) g1
set_option maxRecDepth 100000 in
set_option maxHeartbeats 4000000 in
theorem x_paneIs_2 {ro : xRO} {d : Nat} {M : xM} {T : Nat} {P : Nat} (hP : M 1 6 = nI P) (h8 : P ≤ 8) {n : Nat} (hn : n < P) : Rn ro (d + 90) M_X7_paneIs 0 [some (.ref 3), some (.int (nI n)), some (.int 2), none] [] (mk M T) (fun r h => r = some (.int (M (3 + n) 2)) ∧ h = mk M T) := by
  refine R_go 3 (pc' := 5) (L' := [some (.ref 3), some (.int (nI n)), some (.int 2), none]) (st' := [.int (nI n), .ref 4]) (h' := mk M T) (fun _ => rfl) ?_
  refine R_callD (i := .invokevirtual 116) (kd := 0) (y := M_X0_paneAt) (as := [.ref 4, .int (nI n)]) (r := []) (L0 := [some (.ref 4), some (.int (nI n))]) (v := some (.ref (3 + n + 3))) (h' := mk M T) (pc' := 8) (st' := [.ref (3 + n + 3)]) rfl rfl rfl rfl rfl rfl (c_paneAt_in hP h8 hn) ?_
  refine R_go 6 (pc' := 79) (L' := [some (.ref 3), some (.int (nI n)), some (.int 2), some (.ref (3 + n + 3))]) (st' := [.ref (3 + n + 3)]) (h' := mk M T) (fun _ => rfl) ?_
  refine R_getI (i := 98) (j := 2) (c := 3 + n) (sh_pane (by omega)) rfl rfl rfl ?_
  refine R_ret 1 (pcr := 82) (v := some (.int (M (3 + n) 2))) (h' := mk M T) (fun _ => rfl) ?_
  exact ⟨rfl, rfl⟩
set_option maxRecDepth 100000 in
set_option maxHeartbeats 4000000 in
theorem m_paneIs_2 {ro : xRO} {d : Nat} {M : xM} {T : Nat} {P : Nat} (hP : M 62 6 = nI P) (h8 : P ≤ 8) {n : Nat} (hn : n < P) : Rn ro (d + 90) M_X8_paneIs 0 [some (.ref 64), some (.int (nI n)), some (.int 2)] [] (mk M T) (fun r h => r = some (.int (M 62 (10 + 7 * n + 2))) ∧ h = mk M T) := by
  refine R_go 2 (pc' := 2) (L' := [some (.ref 64), some (.int (nI n)), some (.int 2)]) (st' := [.int (nI n), .ref 64]) (h' := mk M T) (fun _ => rfl) ?_
  refine R_call2 (i := .invokevirtual 92) (kd := 0) (y := M_X8_isPane) (as := [.ref 64, .int (nI n)]) (r := []) (L0 := [some (.ref 64), some (.int (nI n))]) (v1 := some (.int 1)) (v2 := some (.int 0)) (h1' := mk M T) (h2' := mk M T) (pc' := 5) (st1 := [.int 1]) (st2 := [.int 0]) rfl rfl rfl rfl rfl rfl (m_isPane hP h8) (fun g1 => ?_) (fun g1 => ?_)
  · refine R_go 4 (pc' := 12) (L' := [some (.ref 64), some (.int (nI n)), some (.int 2)]) (st' := [.int 7, .int 0, .int 2]) (h' := mk M T) (fun _ => rfl) ?_
    refine R_call2 (i := .invokestatic 53) (kd := 1) (y := M_X8_in) (as := [.int 2, .int 0, .int 7]) (r := []) (L0 := [some (.int 2), some (.int 0), some (.int 7)]) (v1 := some (.int 1)) (v2 := some (.int 0)) (h1' := mk M T) (h2' := mk M T) (pc' := 15) (st1 := [.int 1]) (st2 := [.int 0]) rfl rfl rfl rfl rfl rfl (m_in) (fun g2 => ?_) (fun g2 => ?_)
    · refine R_go 7 (pc' := 34) (L' := [some (.ref 64), some (.int (nI n)), some (.int 2)]) (st' := [.int 2, .int (nI n), .ref 64]) (h' := mk M T) (fun _ => rfl) ?_
      refine R_callD (i := .invokevirtual 57) (kd := 0) (y := M_X8_of) (as := [.ref 64, .int (nI n), .int 2]) (r := []) (L0 := [some (.ref 64), some (.int (nI n)), some (.int 2)]) (v := some (.int (M 62 (10 + 7 * n + 2)))) (h' := mk M T) (pc' := 37) (st' := [.int (M 62 (10 + 7 * n + 2))]) rfl rfl rfl rfl rfl rfl (m_of (p := n) (j := 2) (by omega) (by omega)) ?_
      refine R_ret 2 (pcr := 45) (v := some (.int (M 62 (10 + 7 * n + 2)))) (h' := mk M T) (fun _ => rfl) ?_
      exact ⟨rfl, rfl⟩
    · exact absurd ((by decide)) g2
  · exact absurd (⟨nI_pos' (by omega), nI_lt hn (by omega)⟩) g1
set_option maxRecDepth 100000 in
set_option maxHeartbeats 4000000 in
theorem x_paneIs_3 {ro : xRO} {d : Nat} {M : xM} {T : Nat} {P : Nat} (hP : M 1 6 = nI P) (h8 : P ≤ 8) {n : Nat} (hn : n < P) : Rn ro (d + 90) M_X7_paneIs 0 [some (.ref 3), some (.int (nI n)), some (.int 3), none] [] (mk M T) (fun r h => r = some (.int (M (3 + n) 3)) ∧ h = mk M T) := by
  refine R_go 3 (pc' := 5) (L' := [some (.ref 3), some (.int (nI n)), some (.int 3), none]) (st' := [.int (nI n), .ref 4]) (h' := mk M T) (fun _ => rfl) ?_
  refine R_callD (i := .invokevirtual 116) (kd := 0) (y := M_X0_paneAt) (as := [.ref 4, .int (nI n)]) (r := []) (L0 := [some (.ref 4), some (.int (nI n))]) (v := some (.ref (3 + n + 3))) (h' := mk M T) (pc' := 8) (st' := [.ref (3 + n + 3)]) rfl rfl rfl rfl rfl rfl (c_paneAt_in hP h8 hn) ?_
  refine R_go 6 (pc' := 84) (L' := [some (.ref 3), some (.int (nI n)), some (.int 3), some (.ref (3 + n + 3))]) (st' := [.ref (3 + n + 3)]) (h' := mk M T) (fun _ => rfl) ?_
  refine R_getI (i := 101) (j := 3) (c := 3 + n) (sh_pane (by omega)) rfl rfl rfl ?_
  refine R_ret 1 (pcr := 87) (v := some (.int (M (3 + n) 3))) (h' := mk M T) (fun _ => rfl) ?_
  exact ⟨rfl, rfl⟩
set_option maxRecDepth 100000 in
set_option maxHeartbeats 4000000 in
theorem m_paneIs_3 {ro : xRO} {d : Nat} {M : xM} {T : Nat} {P : Nat} (hP : M 62 6 = nI P) (h8 : P ≤ 8) {n : Nat} (hn : n < P) : Rn ro (d + 90) M_X8_paneIs 0 [some (.ref 64), some (.int (nI n)), some (.int 3)] [] (mk M T) (fun r h => r = some (.int (M 62 (10 + 7 * n + 3))) ∧ h = mk M T) := by
  refine R_go 2 (pc' := 2) (L' := [some (.ref 64), some (.int (nI n)), some (.int 3)]) (st' := [.int (nI n), .ref 64]) (h' := mk M T) (fun _ => rfl) ?_
  refine R_call2 (i := .invokevirtual 92) (kd := 0) (y := M_X8_isPane) (as := [.ref 64, .int (nI n)]) (r := []) (L0 := [some (.ref 64), some (.int (nI n))]) (v1 := some (.int 1)) (v2 := some (.int 0)) (h1' := mk M T) (h2' := mk M T) (pc' := 5) (st1 := [.int 1]) (st2 := [.int 0]) rfl rfl rfl rfl rfl rfl (m_isPane hP h8) (fun g1 => ?_) (fun g1 => ?_)
  · refine R_go 4 (pc' := 12) (L' := [some (.ref 64), some (.int (nI n)), some (.int 3)]) (st' := [.int 7, .int 0, .int 3]) (h' := mk M T) (fun _ => rfl) ?_
    refine R_call2 (i := .invokestatic 53) (kd := 1) (y := M_X8_in) (as := [.int 3, .int 0, .int 7]) (r := []) (L0 := [some (.int 3), some (.int 0), some (.int 7)]) (v1 := some (.int 1)) (v2 := some (.int 0)) (h1' := mk M T) (h2' := mk M T) (pc' := 15) (st1 := [.int 1]) (st2 := [.int 0]) rfl rfl rfl rfl rfl rfl (m_in) (fun g2 => ?_) (fun g2 => ?_)
    · refine R_go 7 (pc' := 34) (L' := [some (.ref 64), some (.int (nI n)), some (.int 3)]) (st' := [.int 3, .int (nI n), .ref 64]) (h' := mk M T) (fun _ => rfl) ?_
      refine R_callD (i := .invokevirtual 57) (kd := 0) (y := M_X8_of) (as := [.ref 64, .int (nI n), .int 3]) (r := []) (L0 := [some (.ref 64), some (.int (nI n)), some (.int 3)]) (v := some (.int (M 62 (10 + 7 * n + 3)))) (h' := mk M T) (pc' := 37) (st' := [.int (M 62 (10 + 7 * n + 3))]) rfl rfl rfl rfl rfl rfl (m_of (p := n) (j := 3) (by omega) (by omega)) ?_
      refine R_ret 2 (pcr := 45) (v := some (.int (M 62 (10 + 7 * n + 3)))) (h' := mk M T) (fun _ => rfl) ?_
      exact ⟨rfl, rfl⟩
    · exact absurd ((by decide)) g2
  · exact absurd (⟨nI_pos' (by omega), nI_lt hn (by omega)⟩) g1
set_option maxRecDepth 100000 in
set_option maxHeartbeats 4000000 in
theorem x_paneIs_4 {ro : xRO} {d : Nat} {M : xM} {T : Nat} {P : Nat} (hP : M 1 6 = nI P) (h8 : P ≤ 8) {n : Nat} (hn : n < P) : Rn ro (d + 90) M_X7_paneIs 0 [some (.ref 3), some (.int (nI n)), some (.int 4), none] [] (mk M T) (fun r h => r = some (.int (M (3 + n) 4)) ∧ h = mk M T) := by
  refine R_go 3 (pc' := 5) (L' := [some (.ref 3), some (.int (nI n)), some (.int 4), none]) (st' := [.int (nI n), .ref 4]) (h' := mk M T) (fun _ => rfl) ?_
  refine R_callD (i := .invokevirtual 116) (kd := 0) (y := M_X0_paneAt) (as := [.ref 4, .int (nI n)]) (r := []) (L0 := [some (.ref 4), some (.int (nI n))]) (v := some (.ref (3 + n + 3))) (h' := mk M T) (pc' := 8) (st' := [.ref (3 + n + 3)]) rfl rfl rfl rfl rfl rfl (c_paneAt_in hP h8 hn) ?_
  refine R_go 6 (pc' := 89) (L' := [some (.ref 3), some (.int (nI n)), some (.int 4), some (.ref (3 + n + 3))]) (st' := [.ref (3 + n + 3)]) (h' := mk M T) (fun _ => rfl) ?_
  refine R_getI (i := 104) (j := 4) (c := 3 + n) (sh_pane (by omega)) rfl rfl rfl ?_
  refine R_ret 1 (pcr := 92) (v := some (.int (M (3 + n) 4))) (h' := mk M T) (fun _ => rfl) ?_
  exact ⟨rfl, rfl⟩
set_option maxRecDepth 100000 in
set_option maxHeartbeats 4000000 in
theorem m_paneIs_4 {ro : xRO} {d : Nat} {M : xM} {T : Nat} {P : Nat} (hP : M 62 6 = nI P) (h8 : P ≤ 8) {n : Nat} (hn : n < P) : Rn ro (d + 90) M_X8_paneIs 0 [some (.ref 64), some (.int (nI n)), some (.int 4)] [] (mk M T) (fun r h => r = some (.int (M 62 (10 + 7 * n + 4))) ∧ h = mk M T) := by
  refine R_go 2 (pc' := 2) (L' := [some (.ref 64), some (.int (nI n)), some (.int 4)]) (st' := [.int (nI n), .ref 64]) (h' := mk M T) (fun _ => rfl) ?_
  refine R_call2 (i := .invokevirtual 92) (kd := 0) (y := M_X8_isPane) (as := [.ref 64, .int (nI n)]) (r := []) (L0 := [some (.ref 64), some (.int (nI n))]) (v1 := some (.int 1)) (v2 := some (.int 0)) (h1' := mk M T) (h2' := mk M T) (pc' := 5) (st1 := [.int 1]) (st2 := [.int 0]) rfl rfl rfl rfl rfl rfl (m_isPane hP h8) (fun g1 => ?_) (fun g1 => ?_)
  · refine R_go 4 (pc' := 12) (L' := [some (.ref 64), some (.int (nI n)), some (.int 4)]) (st' := [.int 7, .int 0, .int 4]) (h' := mk M T) (fun _ => rfl) ?_
    refine R_call2 (i := .invokestatic 53) (kd := 1) (y := M_X8_in) (as := [.int 4, .int 0, .int 7]) (r := []) (L0 := [some (.int 4), some (.int 0), some (.int 7)]) (v1 := some (.int 1)) (v2 := some (.int 0)) (h1' := mk M T) (h2' := mk M T) (pc' := 15) (st1 := [.int 1]) (st2 := [.int 0]) rfl rfl rfl rfl rfl rfl (m_in) (fun g2 => ?_) (fun g2 => ?_)
    · refine R_go 7 (pc' := 34) (L' := [some (.ref 64), some (.int (nI n)), some (.int 4)]) (st' := [.int 4, .int (nI n), .ref 64]) (h' := mk M T) (fun _ => rfl) ?_
      refine R_callD (i := .invokevirtual 57) (kd := 0) (y := M_X8_of) (as := [.ref 64, .int (nI n), .int 4]) (r := []) (L0 := [some (.ref 64), some (.int (nI n)), some (.int 4)]) (v := some (.int (M 62 (10 + 7 * n + 4)))) (h' := mk M T) (pc' := 37) (st' := [.int (M 62 (10 + 7 * n + 4))]) rfl rfl rfl rfl rfl rfl (m_of (p := n) (j := 4) (by omega) (by omega)) ?_
      refine R_ret 2 (pcr := 45) (v := some (.int (M 62 (10 + 7 * n + 4)))) (h' := mk M T) (fun _ => rfl) ?_
      exact ⟨rfl, rfl⟩
    · exact absurd ((by decide)) g2
  · exact absurd (⟨nI_pos' (by omega), nI_lt hn (by omega)⟩) g1
set_option maxRecDepth 100000 in
set_option maxHeartbeats 4000000 in
theorem x_paneIs_5 {ro : xRO} {d : Nat} {M : xM} {T : Nat} {P : Nat} (hP : M 1 6 = nI P) (h8 : P ≤ 8) {n : Nat} (hn : n < P) : Rn ro (d + 90) M_X7_paneIs 0 [some (.ref 3), some (.int (nI n)), some (.int 5), none] [] (mk M T) (fun r h => r = some (.int (M (3 + n) 5)) ∧ h = mk M T) := by
  refine R_go 3 (pc' := 5) (L' := [some (.ref 3), some (.int (nI n)), some (.int 5), none]) (st' := [.int (nI n), .ref 4]) (h' := mk M T) (fun _ => rfl) ?_
  refine R_callD (i := .invokevirtual 116) (kd := 0) (y := M_X0_paneAt) (as := [.ref 4, .int (nI n)]) (r := []) (L0 := [some (.ref 4), some (.int (nI n))]) (v := some (.ref (3 + n + 3))) (h' := mk M T) (pc' := 8) (st' := [.ref (3 + n + 3)]) rfl rfl rfl rfl rfl rfl (c_paneAt_in hP h8 hn) ?_
  refine R_go 6 (pc' := 94) (L' := [some (.ref 3), some (.int (nI n)), some (.int 5), some (.ref (3 + n + 3))]) (st' := [.ref (3 + n + 3)]) (h' := mk M T) (fun _ => rfl) ?_
  refine R_getI (i := 107) (j := 5) (c := 3 + n) (sh_pane (by omega)) rfl rfl rfl ?_
  refine R_ret 1 (pcr := 97) (v := some (.int (M (3 + n) 5))) (h' := mk M T) (fun _ => rfl) ?_
  exact ⟨rfl, rfl⟩
set_option maxRecDepth 100000 in
set_option maxHeartbeats 4000000 in
theorem m_paneIs_5 {ro : xRO} {d : Nat} {M : xM} {T : Nat} {P : Nat} (hP : M 62 6 = nI P) (h8 : P ≤ 8) {n : Nat} (hn : n < P) : Rn ro (d + 90) M_X8_paneIs 0 [some (.ref 64), some (.int (nI n)), some (.int 5)] [] (mk M T) (fun r h => r = some (.int (M 62 (10 + 7 * n + 5))) ∧ h = mk M T) := by
  refine R_go 2 (pc' := 2) (L' := [some (.ref 64), some (.int (nI n)), some (.int 5)]) (st' := [.int (nI n), .ref 64]) (h' := mk M T) (fun _ => rfl) ?_
  refine R_call2 (i := .invokevirtual 92) (kd := 0) (y := M_X8_isPane) (as := [.ref 64, .int (nI n)]) (r := []) (L0 := [some (.ref 64), some (.int (nI n))]) (v1 := some (.int 1)) (v2 := some (.int 0)) (h1' := mk M T) (h2' := mk M T) (pc' := 5) (st1 := [.int 1]) (st2 := [.int 0]) rfl rfl rfl rfl rfl rfl (m_isPane hP h8) (fun g1 => ?_) (fun g1 => ?_)
  · refine R_go 4 (pc' := 12) (L' := [some (.ref 64), some (.int (nI n)), some (.int 5)]) (st' := [.int 7, .int 0, .int 5]) (h' := mk M T) (fun _ => rfl) ?_
    refine R_call2 (i := .invokestatic 53) (kd := 1) (y := M_X8_in) (as := [.int 5, .int 0, .int 7]) (r := []) (L0 := [some (.int 5), some (.int 0), some (.int 7)]) (v1 := some (.int 1)) (v2 := some (.int 0)) (h1' := mk M T) (h2' := mk M T) (pc' := 15) (st1 := [.int 1]) (st2 := [.int 0]) rfl rfl rfl rfl rfl rfl (m_in) (fun g2 => ?_) (fun g2 => ?_)
    · refine R_go 7 (pc' := 34) (L' := [some (.ref 64), some (.int (nI n)), some (.int 5)]) (st' := [.int 5, .int (nI n), .ref 64]) (h' := mk M T) (fun _ => rfl) ?_
      refine R_callD (i := .invokevirtual 57) (kd := 0) (y := M_X8_of) (as := [.ref 64, .int (nI n), .int 5]) (r := []) (L0 := [some (.ref 64), some (.int (nI n)), some (.int 5)]) (v := some (.int (M 62 (10 + 7 * n + 5)))) (h' := mk M T) (pc' := 37) (st' := [.int (M 62 (10 + 7 * n + 5))]) rfl rfl rfl rfl rfl rfl (m_of (p := n) (j := 5) (by omega) (by omega)) ?_
      refine R_ret 2 (pcr := 45) (v := some (.int (M 62 (10 + 7 * n + 5)))) (h' := mk M T) (fun _ => rfl) ?_
      exact ⟨rfl, rfl⟩
    · exact absurd ((by decide)) g2
  · exact absurd (⟨nI_pos' (by omega), nI_lt hn (by omega)⟩) g1
set_option maxRecDepth 100000 in
set_option maxHeartbeats 4000000 in
theorem x_paneIs_6 {ro : xRO} {d : Nat} {M : xM} {T : Nat} {P : Nat} (hP : M 1 6 = nI P) (h8 : P ≤ 8) {n : Nat} (hn : n < P) : Rn ro (d + 90) M_X7_paneIs 0 [some (.ref 3), some (.int (nI n)), some (.int 6), none] [] (mk M T) (fun r h => r = some (.int (M (3 + n) 6)) ∧ h = mk M T) := by
  refine R_go 3 (pc' := 5) (L' := [some (.ref 3), some (.int (nI n)), some (.int 6), none]) (st' := [.int (nI n), .ref 4]) (h' := mk M T) (fun _ => rfl) ?_
  refine R_callD (i := .invokevirtual 116) (kd := 0) (y := M_X0_paneAt) (as := [.ref 4, .int (nI n)]) (r := []) (L0 := [some (.ref 4), some (.int (nI n))]) (v := some (.ref (3 + n + 3))) (h' := mk M T) (pc' := 8) (st' := [.ref (3 + n + 3)]) rfl rfl rfl rfl rfl rfl (c_paneAt_in hP h8 hn) ?_
  refine R_go 6 (pc' := 99) (L' := [some (.ref 3), some (.int (nI n)), some (.int 6), some (.ref (3 + n + 3))]) (st' := [.ref (3 + n + 3)]) (h' := mk M T) (fun _ => rfl) ?_
  refine R_getI (i := 110) (j := 6) (c := 3 + n) (sh_pane (by omega)) rfl rfl rfl ?_
  refine R_ret 1 (pcr := 102) (v := some (.int (M (3 + n) 6))) (h' := mk M T) (fun _ => rfl) ?_
  exact ⟨rfl, rfl⟩
set_option maxRecDepth 100000 in
set_option maxHeartbeats 4000000 in
theorem m_paneIs_6 {ro : xRO} {d : Nat} {M : xM} {T : Nat} {P : Nat} (hP : M 62 6 = nI P) (h8 : P ≤ 8) {n : Nat} (hn : n < P) : Rn ro (d + 90) M_X8_paneIs 0 [some (.ref 64), some (.int (nI n)), some (.int 6)] [] (mk M T) (fun r h => r = some (.int (M 62 (10 + 7 * n + 6))) ∧ h = mk M T) := by
  refine R_go 2 (pc' := 2) (L' := [some (.ref 64), some (.int (nI n)), some (.int 6)]) (st' := [.int (nI n), .ref 64]) (h' := mk M T) (fun _ => rfl) ?_
  refine R_call2 (i := .invokevirtual 92) (kd := 0) (y := M_X8_isPane) (as := [.ref 64, .int (nI n)]) (r := []) (L0 := [some (.ref 64), some (.int (nI n))]) (v1 := some (.int 1)) (v2 := some (.int 0)) (h1' := mk M T) (h2' := mk M T) (pc' := 5) (st1 := [.int 1]) (st2 := [.int 0]) rfl rfl rfl rfl rfl rfl (m_isPane hP h8) (fun g1 => ?_) (fun g1 => ?_)
  · refine R_go 4 (pc' := 12) (L' := [some (.ref 64), some (.int (nI n)), some (.int 6)]) (st' := [.int 7, .int 0, .int 6]) (h' := mk M T) (fun _ => rfl) ?_
    refine R_call2 (i := .invokestatic 53) (kd := 1) (y := M_X8_in) (as := [.int 6, .int 0, .int 7]) (r := []) (L0 := [some (.int 6), some (.int 0), some (.int 7)]) (v1 := some (.int 1)) (v2 := some (.int 0)) (h1' := mk M T) (h2' := mk M T) (pc' := 15) (st1 := [.int 1]) (st2 := [.int 0]) rfl rfl rfl rfl rfl rfl (m_in) (fun g2 => ?_) (fun g2 => ?_)
    · refine R_go 7 (pc' := 34) (L' := [some (.ref 64), some (.int (nI n)), some (.int 6)]) (st' := [.int 6, .int (nI n), .ref 64]) (h' := mk M T) (fun _ => rfl) ?_
      refine R_callD (i := .invokevirtual 57) (kd := 0) (y := M_X8_of) (as := [.ref 64, .int (nI n), .int 6]) (r := []) (L0 := [some (.ref 64), some (.int (nI n)), some (.int 6)]) (v := some (.int (M 62 (10 + 7 * n + 6)))) (h' := mk M T) (pc' := 37) (st' := [.int (M 62 (10 + 7 * n + 6))]) rfl rfl rfl rfl rfl rfl (m_of (p := n) (j := 6) (by omega) (by omega)) ?_
      refine R_ret 2 (pcr := 45) (v := some (.int (M 62 (10 + 7 * n + 6)))) (h' := mk M T) (fun _ => rfl) ?_
      exact ⟨rfl, rfl⟩
    · exact absurd ((by decide)) g2
  · exact absurd (⟨nI_pos' (by omega), nI_lt hn (by omega)⟩) g1
set_option maxRecDepth 100000 in
set_option maxHeartbeats 4000000 in
theorem x_paneIs_7 {ro : xRO} {d : Nat} {M : xM} {T : Nat} {P : Nat} (hP : M 1 6 = nI P) (h8 : P ≤ 8) {n : Nat} (hn : n < P) {kd m fc cl cold lamp : Nat} (hF : paneF M (3 + n) kd m fc cl) (hc : M 1 11 = nI cold) (hl : M 1 13 = nI lamp) (c1 : cold ≤ 40) (l1 : lamp ≤ 1) : Rn ro (d + 90) M_X7_paneIs 0 [some (.ref 3), some (.int (nI n)), some (.int 7), none] [] (mk M T) (fun r h => r = some (.int (nI (strN kd m cl cold lamp))) ∧ h = mk M T) := by
  refine R_go 3 (pc' := 5) (L' := [some (.ref 3), some (.int (nI n)), some (.int 7), none]) (st' := [.int (nI n), .ref 4]) (h' := mk M T) (fun _ => rfl) ?_
  refine R_callD (i := .invokevirtual 116) (kd := 0) (y := M_X0_paneAt) (as := [.ref 4, .int (nI n)]) (r := []) (L0 := [some (.ref 4), some (.int (nI n))]) (v := some (.ref (3 + n + 3))) (h' := mk M T) (pc' := 8) (st' := [.ref (3 + n + 3)]) rfl rfl rfl rfl rfl rfl (c_paneAt_in hP h8 hn) ?_
  refine R_go 9 (pc' := 111) (L' := [some (.ref 3), some (.int (nI n)), some (.int 7), some (.ref (3 + n + 3))]) (st' := [.int (M 1 11), .ref (3 + n + 3)]) (h' := mk M T) (fun _ => rfl) ?_
  refine R_top (y := nI cold) (hc) ?_
  refine R_go 3 (pc' := 118) (L' := [some (.ref 3), some (.int (nI n)), some (.int 7), some (.ref (3 + n + 3))]) (st' := [.int (M 1 13), .int (nI cold), .ref (3 + n + 3)]) (h' := mk M T) (fun _ => rfl) ?_
  refine R_top (y := nI lamp) (hl) ?_
  refine R_callD (i := .invokevirtual 126) (kd := 0) (y := M_X1_strokesBy) (as := [.ref (3 + n + 3), .int (nI cold), .int (nI lamp)]) (r := []) (L0 := [some (.ref (3 + n + 3)), some (.int (nI cold)), some (.int (nI lamp)), none]) (v := some (.int (nI (strN kd m cl cold lamp)))) (h' := mk M T) (pc' := 121) (st' := [.int (nI (strN kd m cl cold lamp))]) rfl rfl rfl rfl (xPre_c (sh_pane (by omega)) rfl rfl rfl rfl) rfl (c_strokesBy (sh_pane (by omega)) hF c1 l1) ?_
  refine R_ret 1 (pcr := 121) (v := some (.int (nI (strN kd m cl cold lamp)))) (h' := mk M T) (fun _ => rfl) ?_
  exact ⟨rfl, rfl⟩
set_option maxRecDepth 100000 in
set_option maxHeartbeats 4000000 in
theorem m_paneIs_7 {ro : xRO} {d : Nat} {M : xM} {T : Nat} {P : Nat} (hP : M 62 6 = nI P) (h8 : P ≤ 8) {n : Nat} (hn : n < P) {kd m fc cl cold lamp : Nat} (hF : rpF M n kd m fc cl) (hc : M 62 0 = nI cold) (hl : M 62 2 = nI lamp) (c1 : cold ≤ 40) (l1 : lamp ≤ 1) : Rn ro (d + 90) M_X8_paneIs 0 [some (.ref 64), some (.int (nI n)), some (.int 7)] [] (mk M T) (fun r h => r = some (.int (nI (strN kd m cl cold lamp))) ∧ h = mk M T) := by
  refine R_go 2 (pc' := 2) (L' := [some (.ref 64), some (.int (nI n)), some (.int 7)]) (st' := [.int (nI n), .ref 64]) (h' := mk M T) (fun _ => rfl) ?_
  refine R_call2 (i := .invokevirtual 92) (kd := 0) (y := M_X8_isPane) (as := [.ref 64, .int (nI n)]) (r := []) (L0 := [some (.ref 64), some (.int (nI n))]) (v1 := some (.int 1)) (v2 := some (.int 0)) (h1' := mk M T) (h2' := mk M T) (pc' := 5) (st1 := [.int 1]) (st2 := [.int 0]) rfl rfl rfl rfl rfl rfl (m_isPane hP h8) (fun g1 => ?_) (fun g1 => ?_)
  · refine R_go 4 (pc' := 12) (L' := [some (.ref 64), some (.int (nI n)), some (.int 7)]) (st' := [.int 7, .int 0, .int 7]) (h' := mk M T) (fun _ => rfl) ?_
    refine R_call2 (i := .invokestatic 53) (kd := 1) (y := M_X8_in) (as := [.int 7, .int 0, .int 7]) (r := []) (L0 := [some (.int 7), some (.int 0), some (.int 7)]) (v1 := some (.int 1)) (v2 := some (.int 0)) (h1' := mk M T) (h2' := mk M T) (pc' := 15) (st1 := [.int 1]) (st2 := [.int 0]) rfl rfl rfl rfl rfl rfl (m_in) (fun g2 => ?_) (fun g2 => ?_)
    · refine R_go 6 (pc' := 42) (L' := [some (.ref 64), some (.int (nI n)), some (.int 7)]) (st' := [.int (nI n), .ref 64]) (h' := mk M T) (fun _ => rfl) ?_
      refine R_callD (i := .invokevirtual 73) (kd := 0) (y := M_X8_strokesOf) (as := [.ref 64, .int (nI n)]) (r := []) (L0 := [some (.ref 64), some (.int (nI n)), none, none, none, none]) (v := some (.int (nI (strN kd m cl cold lamp)))) (h' := mk M T) (pc' := 45) (st' := [.int (nI (strN kd m cl cold lamp))]) rfl rfl rfl rfl rfl rfl (m_strokesOf (by omega) hF hc hl c1 l1) ?_
      refine R_ret 1 (pcr := 45) (v := some (.int (nI (strN kd m cl cold lamp)))) (h' := mk M T) (fun _ => rfl) ?_
      exact ⟨rfl, rfl⟩
    · exact absurd ((by decide)) g2
  · exact absurd (⟨nI_pos' (by omega), nI_lt hn (by omega)⟩) g1
set_option maxRecDepth 100000 in
set_option maxHeartbeats 4000000 in
theorem x_paneIs_b {ro : xRO} {d : Nat} {M : xM} {T : Nat} {P : Nat} (hP : M 1 6 = nI P) (h8 : P ≤ 8) {n : Nat} (hn : n < P) {v : Int32} (hv : ¬ (0 ≤ v ∧ v ≤ 7)) : Rn ro (d + 90) M_X7_paneIs 0 [some (.ref 3), some (.int (nI n)), some (.int v), none] [] (mk M T) (fun r h => r = some (.int (-1000000001)) ∧ h = mk (up M 60 1 (M 60 1 + 1)) T) := by
  refine R_go 3 (pc' := 5) (L' := [some (.ref 3), some (.int (nI n)), some (.int v), none]) (st' := [.int (nI n), .ref 4]) (h' := mk M T) (fun _ => rfl) ?_
  refine R_callD (i := .invokevirtual 116) (kd := 0) (y := M_X0_paneAt) (as := [.ref 4, .int (nI n)]) (r := []) (L0 := [some (.ref 4), some (.int (nI n))]) (v := some (.ref (3 + n + 3))) (h' := mk M T) (pc' := 8) (st' := [.ref (3 + n + 3)]) rfl rfl rfl rfl rfl rfl (c_paneAt_in hP h8 hn) ?_
  refine R_go 4 (pc' := 20) (L' := [some (.ref 3), some (.int (nI n)), some (.int v), some (.ref (3 + n + 3))]) (st' := [.int v]) (h' := mk M T) (fun _ => rfl) ?_
  refine R_tswd (t := 122) rfl (tsw_out (a := 0) (b := 7) rfl rfl hv) rfl ?_
  refine R_go 2 (pc' := 124) (L' := [some (.ref 3), some (.int (nI n)), some (.int v), some (.ref (3 + n + 3))]) (st' := [.int 1, .ref 3]) (h' := mk M T) (fun _ => rfl) ?_
  refine R_callD (i := .invokevirtual 75) (kd := 0) (y := M_X7_error) (as := [.ref 3, .int 1]) (r := []) (L0 := [some (.ref 3), some (.int 1)]) (v := some (.int (-1000000001))) (h' := mk (up M 60 1 (M 60 1 + 1)) T) (pc' := 127) (st' := [.int (-1000000001)]) rfl rfl rfl rfl rfl rfl (c_error_1) ?_
  refine R_ret 1 (pcr := 127) (v := some (.int (-1000000001))) (h' := mk (up M 60 1 (M 60 1 + 1)) T) (fun _ => rfl) ?_
  exact ⟨rfl, rfl⟩
set_option maxRecDepth 100000 in
set_option maxHeartbeats 4000000 in
theorem m_paneIs_b {ro : xRO} {d : Nat} {M : xM} {T : Nat} {P : Nat} (hP : M 62 6 = nI P) (h8 : P ≤ 8) {n : Nat} (hn : n < P) {v : Int32} (hv : ¬ (0 ≤ v ∧ v ≤ 7)) : Rn ro (d + 90) M_X8_paneIs 0 [some (.ref 64), some (.int (nI n)), some (.int v)] [] (mk M T) (fun r h => r = some (.int (-1000000001)) ∧ h = mk (up M 64 1 (M 64 1 + 1)) T) := by
  refine R_go 2 (pc' := 2) (L' := [some (.ref 64), some (.int (nI n)), some (.int v)]) (st' := [.int (nI n), .ref 64]) (h' := mk M T) (fun _ => rfl) ?_
  refine R_call2 (i := .invokevirtual 92) (kd := 0) (y := M_X8_isPane) (as := [.ref 64, .int (nI n)]) (r := []) (L0 := [some (.ref 64), some (.int (nI n))]) (v1 := some (.int 1)) (v2 := some (.int 0)) (h1' := mk M T) (h2' := mk M T) (pc' := 5) (st1 := [.int 1]) (st2 := [.int 0]) rfl rfl rfl rfl rfl rfl (m_isPane hP h8) (fun g1 => ?_) (fun g1 => ?_)
  · refine R_go 4 (pc' := 12) (L' := [some (.ref 64), some (.int (nI n)), some (.int v)]) (st' := [.int 7, .int 0, .int v]) (h' := mk M T) (fun _ => rfl) ?_
    refine R_call2 (i := .invokestatic 53) (kd := 1) (y := M_X8_in) (as := [.int v, .int 0, .int 7]) (r := []) (L0 := [some (.int v), some (.int 0), some (.int 7)]) (v1 := some (.int 1)) (v2 := some (.int 0)) (h1' := mk M T) (h2' := mk M T) (pc' := 15) (st1 := [.int 1]) (st2 := [.int 0]) rfl rfl rfl rfl rfl rfl (m_in) (fun g2 => ?_) (fun g2 => ?_)
    · exact absurd g2 (hv)
    · refine R_go 3 (pc' := 21) (L' := [some (.ref 64), some (.int (nI n)), some (.int v)]) (st' := [.int (-1000000001), .ref 64]) (h' := mk M T) (fun _ => rfl) ?_
      refine R_callD (i := .invokevirtual 81) (kd := 0) (y := M_X8_error) (as := [.ref 64, .int (-1000000001)]) (r := []) (L0 := [some (.ref 64), some (.int (-1000000001))]) (v := some (.int (-1000000001))) (h' := mk (up M 64 1 (M 64 1 + 1)) T) (pc' := 24) (st' := [.int (-1000000001)]) rfl rfl rfl rfl rfl rfl (m_error_1) ?_
      refine R_ret 1 (pcr := 24) (v := some (.int (-1000000001))) (h' := mk (up M 64 1 (M 64 1 + 1)) T) (fun _ => rfl) ?_
      exact ⟨rfl, rfl⟩
  · exact absurd (⟨nI_pos' (by omega), nI_lt hn (by omega)⟩) g1
set_option maxHeartbeats 4000000 in
theorem op_paneIs {ro : xRO} {M : xM} {T : Nat} (h : Rel M) {i v : Int32} : OpOK ro M_X7_paneIs M_X8_paneIs [some (.ref 3), some (.int i), some (.int v), none] [some (.ref 64), some (.int i), some (.int v)] M T := by
  obtain ⟨P, H, h8, h6, pm, hm, px, hx, a, b1, b2, b3, b4, c2, c3, c4, c5⟩ := rel_all h
  rcases nI_cases i P (by omega) with ⟨n, hn, rfl⟩ | hi
  · rcases of_in v (b := 7) (by omega) with ⟨w, hw, rfl⟩ | hv
    · match w, hw with
      | 0, _ => exact OpOK.of (fun d => x_paneIs_0 px h8 hn) (fun d => m_paneIs_0 pm h8 hn) (b1 n 0 (by omega) (by omega)).symm h
      | 1, _ => exact OpOK.of (fun d => x_paneIs_1 px h8 hn) (fun d => m_paneIs_1 pm h8 hn) (b1 n 1 (by omega) (by omega)).symm h
      | 2, _ => exact OpOK.of (fun d => x_paneIs_2 px h8 hn) (fun d => m_paneIs_2 pm h8 hn) (b1 n 2 (by omega) (by omega)).symm h
      | 3, _ => exact OpOK.of (fun d => x_paneIs_3 px h8 hn) (fun d => m_paneIs_3 pm h8 hn) (b1 n 3 (by omega) (by omega)).symm h
      | 4, _ => exact OpOK.of (fun d => x_paneIs_4 px h8 hn) (fun d => m_paneIs_4 pm h8 hn) (b1 n 4 (by omega) (by omega)).symm h
      | 5, _ => exact OpOK.of (fun d => x_paneIs_5 px h8 hn) (fun d => m_paneIs_5 pm h8 hn) (b1 n 5 (by omega) (by omega)).symm h
      | 6, _ => exact OpOK.of (fun d => x_paneIs_6 px h8 hn) (fun d => m_paneIs_6 pm h8 hn) (b1 n 6 (by omega) (by omega)).symm h
      | 7, _ =>
        obtain ⟨cold, cc1, cc2⟩ := c2.2.2.1
        obtain ⟨lamp, ll1, ll2⟩ := c2.2.2.2.2.1
        obtain ⟨kd, m, fc, cl, hF, hG⟩ := pane_all b1 c3 (n := n) (by omega)
        exact OpOK.of (fun d => x_paneIs_7 px h8 hn hF (a.2.2.2.1.trans cc2) (a.2.2.2.2.2.1.trans ll2) cc1 ll1) (fun d => m_paneIs_7 pm h8 hn hG cc2 ll2 cc1 ll1) rfl h
    · exact OpOK.of (fun d => x_paneIs_b px h8 hn hv) (fun d => m_paneIs_b (M := up M 60 1 (M 60 1 + 1)) pm h8 hn hv) rfl (h.err 1 (by omega))
  · exact OpOK.of (fun d => x_paneIs_o px h8 hi) (fun d => m_paneIs_o (M := up M 60 1 (M 60 1 + 1)) pm h8 hi) rfl (h.err 1 (by omega))
