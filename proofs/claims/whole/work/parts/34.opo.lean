/-! OPERATION odds -/
def odN (x p : Nat) : Nat := if p = 0 then (if x = 41 then 1 else x) else (if x = 0 ∨ x = 41 then 1 else 41)
set_option maxRecDepth 100000 in
set_option maxHeartbeats 4000000 in
theorem x_odds_o {ro : xRO} {d : Nat} {M : xM} {T : Nat} {P : Nat} (hP : M 1 6 = nI P) (h8 : P ≤ 8) {i : Int32} (hi : ¬ (0 ≤ i ∧ i < nI P)) {v : Int32} {w : Int32} {u : Int32} : Rn ro (d + 90) M_X7_odds 0 [some (.ref 3), some (.int i), some (.int v), some (.int w), some (.int u), none, none, none] [] (mk M T) (fun r h => r = some (.int (-1000000001)) ∧ h = mk (up M 60 1 (M 60 1 + 1)) T) := by
  refine R_go 3 (pc' := 5) (L' := [some (.ref 3), some (.int i), some (.int v), some (.int w), some (.int u), none, none, none]) (st' := [.int i, .ref 4]) (h' := mk M T) (fun _ => rfl) ?_
  refine R_callD (i := .invokevirtual 116) (kd := 0) (y := M_X0_paneAt) (as := [.ref 4, .int i]) (r := []) (L0 := [some (.ref 4), some (.int i)]) (v := some (.null)) (h' := mk M T) (pc' := 8) (st' := [.null]) rfl rfl rfl rfl rfl rfl (c_paneAt_out hP h8 hi) ?_
  refine R_go 5 (pc' := 27) (L' := [some (.ref 3), some (.int i), some (.int v), some (.int w), some (.int u), some (.null), none, none]) (st' := [.int 1, .ref 3]) (h' := mk M T) (fun _ => rfl) ?_
  refine R_callD (i := .invokevirtual 75) (kd := 0) (y := M_X7_error) (as := [.ref 3, .int 1]) (r := []) (L0 := [some (.ref 3), some (.int 1)]) (v := some (.int (-1000000001))) (h' := mk (up M 60 1 (M 60 1 + 1)) T) (pc' := 30) (st' := [.int (-1000000001)]) rfl rfl rfl rfl rfl rfl (c_error_1) ?_
  refine R_ret 1 (pcr := 30) (v := some (.int (-1000000001))) (h' := mk (up M 60 1 (M 60 1 + 1)) T) (fun _ => rfl) ?_
  exact ⟨rfl, rfl⟩
set_option maxRecDepth 100000 in
set_option maxHeartbeats 4000000 in
theorem m_odds_o {ro : xRO} {d : Nat} {M : xM} {T : Nat} {P : Nat} (hP : M 62 6 = nI P) (h8 : P ≤ 8) {i : Int32} (hi : ¬ (0 ≤ i ∧ i < nI P)) {v : Int32} {w : Int32} {u : Int32} : Rn ro (d + 90) M_X8_odds 0 [some (.ref 64), some (.int i), some (.int v), some (.int w), some (.int u), none, none, none] [] (mk M T) (fun r h => r = some (.int (-1000000001)) ∧ h = mk (up M 64 1 (M 64 1 + 1)) T) := by
  refine R_go 2 (pc' := 2) (L' := [some (.ref 64), some (.int i), some (.int v), some (.int w), some (.int u), none, none, none]) (st' := [.int i, .ref 64]) (h' := mk M T) (fun _ => rfl) ?_
  refine R_call2 (i := .invokevirtual 92) (kd := 0) (y := M_X8_isPane) (as := [.ref 64, .int i]) (r := []) (L0 := [some (.ref 64), some (.int i)]) (v1 := some (.int 1)) (v2 := some (.int 0)) (h1' := mk M T) (h2' := mk M T) (pc' := 5) (st1 := [.int 1]) (st2 := [.int 0]) rfl rfl rfl rfl rfl rfl (m_isPane hP h8) (fun g1 => ?_) (fun g1 => ?_)
  · exact absurd g1 (hi)
  · refine R_go 3 (pc' := 41) (L' := [some (.ref 64), some (.int i), some (.int v), some (.int w), some (.int u), none, none, none]) (st' := [.int (-1000000001), .ref 64]) (h' := mk M T) (fun _ => rfl) ?_
    refine R_callD (i := .invokevirtual 81) (kd := 0) (y := M_X8_error) (as := [.ref 64, .int (-1000000001)]) (r := []) (L0 := [some (.ref 64), some (.int (-1000000001))]) (v := some (.int (-1000000001))) (h' := mk (up M 64 1 (M 64 1 + 1)) T) (pc' := 44) (st' := [.int (-1000000001)]) rfl rfl rfl rfl rfl rfl (m_error_1) ?_
    refine R_ret 1 (pcr := 44) (v := some (.int (-1000000001))) (h' := mk (up M 64 1 (M 64 1 + 1)) T) (fun _ => rfl) ?_
    exact ⟨rfl, rfl⟩
set_option maxRecDepth 100000 in
set_option maxHeartbeats 4000000 in
theorem x_odds_b1 {ro : xRO} {d : Nat} {M : xM} {T : Nat} {P : Nat} (hP : M 1 6 = nI P) (h8 : P ≤ 8) {n : Nat} (hn : n < P) {v w u : Int32} (hv : ¬ (0 ≤ v ∧ v ≤ 99)) : Rn ro (d + 90) M_X7_odds 0 [some (.ref 3), some (.int (nI n)), some (.int v), some (.int w), some (.int u), none, none, none] [] (mk M T) (fun r h => r = some (.int (-1000000001)) ∧ h = mk (up M 60 1 (M 60 1 + 1)) T) := by
  refine R_go 3 (pc' := 5) (L' := [some (.ref 3), some (.int (nI n)), some (.int v), some (.int w), some (.int u), none, none, none]) (st' := [.int (nI n), .ref 4]) (h' := mk M T) (fun _ => rfl) ?_
  refine R_callD (i := .invokevirtual 116) (kd := 0) (y := M_X0_paneAt) (as := [.ref 4, .int (nI n)]) (r := []) (L0 := [some (.ref 4), some (.int (nI n))]) (v := some (.ref (3 + n + 3))) (h' := mk M T) (pc' := 8) (st' := [.ref (3 + n + 3)]) rfl rfl rfl rfl rfl rfl (c_paneAt_in hP h8 hn) ?_
  refine R_go 6 (pc' := 19) (L' := [some (.ref 3), some (.int (nI n)), some (.int v), some (.int w), some (.int u), some (.ref (3 + n + 3)), none, none]) (st' := [.int 99, .int 0, .int v]) (h' := mk M T) (fun _ => rfl) ?_
  refine R_call2 (i := .invokestatic 78) (kd := 1) (y := M_X7_within) (as := [.int v, .int 0, .int 99]) (r := []) (L0 := [some (.int v), some (.int 0), some (.int 99)]) (v1 := some (.int 1)) (v2 := some (.int 0)) (h1' := mk M T) (h2' := mk M T) (pc' := 22) (st1 := [.int 1]) (st2 := [.int 0]) rfl rfl rfl rfl rfl rfl (c_within) (fun g1 => ?_) (fun g1 => ?_)
  · exact absurd g1 (hv)
  · refine R_go 3 (pc' := 27) (L' := [some (.ref 3), some (.int (nI n)), some (.int v), some (.int w), some (.int u), some (.ref (3 + n + 3)), none, none]) (st' := [.int 1, .ref 3]) (h' := mk M T) (fun _ => rfl) ?_
    refine R_callD (i := .invokevirtual 75) (kd := 0) (y := M_X7_error) (as := [.ref 3, .int 1]) (r := []) (L0 := [some (.ref 3), some (.int 1)]) (v := some (.int (-1000000001))) (h' := mk (up M 60 1 (M 60 1 + 1)) T) (pc' := 30) (st' := [.int (-1000000001)]) rfl rfl rfl rfl rfl rfl (c_error_1) ?_
    refine R_ret 1 (pcr := 30) (v := some (.int (-1000000001))) (h' := mk (up M 60 1 (M 60 1 + 1)) T) (fun _ => rfl) ?_
    exact ⟨rfl, rfl⟩
set_option maxRecDepth 100000 in
set_option maxHeartbeats 4000000 in
theorem m_odds_b1 {ro : xRO} {d : Nat} {M : xM} {T : Nat} {P : Nat} (hP : M 62 6 = nI P) (h8 : P ≤ 8) {n : Nat} (hn : n < P) {v w u : Int32} (hv : ¬ (0 ≤ v ∧ v ≤ 99)) : Rn ro (d + 90) M_X8_odds 0 [some (.ref 64), some (.int (nI n)), some (.int v), some (.int w), some (.int u), none, none, none] [] (mk M T) (fun r h => r = some (.int (-1000000001)) ∧ h = mk (up M 64 1 (M 64 1 + 1)) T) := by
  refine R_go 2 (pc' := 2) (L' := [some (.ref 64), some (.int (nI n)), some (.int v), some (.int w), some (.int u), none, none, none]) (st' := [.int (nI n), .ref 64]) (h' := mk M T) (fun _ => rfl) ?_
  refine R_call2 (i := .invokevirtual 92) (kd := 0) (y := M_X8_isPane) (as := [.ref 64, .int (nI n)]) (r := []) (L0 := [some (.ref 64), some (.int (nI n))]) (v1 := some (.int 1)) (v2 := some (.int 0)) (h1' := mk M T) (h2' := mk M T) (pc' := 5) (st1 := [.int 1]) (st2 := [.int 0]) rfl rfl rfl rfl rfl rfl (m_isPane hP h8) (fun g1 => ?_) (fun g1 => ?_)
  · refine R_go 4 (pc' := 12) (L' := [some (.ref 64), some (.int (nI n)), some (.int v), some (.int w), some (.int u), none, none, none]) (st' := [.int 99, .int 0, .int v]) (h' := mk M T) (fun _ => rfl) ?_
    refine R_call2 (i := .invokestatic 53) (kd := 1) (y := M_X8_in) (as := [.int v, .int 0, .int 99]) (r := []) (L0 := [some (.int v), some (.int 0), some (.int 99)]) (v1 := some (.int 1)) (v2 := some (.int 0)) (h1' := mk M T) (h2' := mk M T) (pc' := 15) (st1 := [.int 1]) (st2 := [.int 0]) rfl rfl rfl rfl rfl rfl (m_in) (fun g2 => ?_) (fun g2 => ?_)
    · exact absurd g2 (hv)
    · refine R_go 3 (pc' := 41) (L' := [some (.ref 64), some (.int (nI n)), some (.int v), some (.int w), some (.int u), none, none, none]) (st' := [.int (-1000000001), .ref 64]) (h' := mk M T) (fun _ => rfl) ?_
      refine R_callD (i := .invokevirtual 81) (kd := 0) (y := M_X8_error) (as := [.ref 64, .int (-1000000001)]) (r := []) (L0 := [some (.ref 64), some (.int (-1000000001))]) (v := some (.int (-1000000001))) (h' := mk (up M 64 1 (M 64 1 + 1)) T) (pc' := 44) (st' := [.int (-1000000001)]) rfl rfl rfl rfl rfl rfl (m_error_1) ?_
      refine R_ret 1 (pcr := 44) (v := some (.int (-1000000001))) (h' := mk (up M 64 1 (M 64 1 + 1)) T) (fun _ => rfl) ?_
      exact ⟨rfl, rfl⟩
  · exact absurd (⟨nI_pos' (by omega), nI_lt hn (by omega)⟩) g1
set_option maxRecDepth 100000 in
set_option maxHeartbeats 4000000 in
theorem x_odds_b2 {ro : xRO} {d : Nat} {M : xM} {T : Nat} {P : Nat} (hP : M 1 6 = nI P) (h8 : P ≤ 8) {n : Nat} (hn : n < P) {s : Nat} {w u : Int32} (hs : s ≤ 99) (hv : ¬ (0 ≤ w ∧ w ≤ 23)) : Rn ro (d + 90) M_X7_odds 0 [some (.ref 3), some (.int (nI n)), some (.int (nI s)), some (.int w), some (.int u), none, none, none] [] (mk M T) (fun r h => r = some (.int (-1000000001)) ∧ h = mk (up M 60 1 (M 60 1 + 1)) T) := by
  refine R_go 3 (pc' := 5) (L' := [some (.ref 3), some (.int (nI n)), some (.int (nI s)), some (.int w), some (.int u), none, none, none]) (st' := [.int (nI n), .ref 4]) (h' := mk M T) (fun _ => rfl) ?_
  refine R_callD (i := .invokevirtual 116) (kd := 0) (y := M_X0_paneAt) (as := [.ref 4, .int (nI n)]) (r := []) (L0 := [some (.ref 4), some (.int (nI n))]) (v := some (.ref (3 + n + 3))) (h' := mk M T) (pc' := 8) (st' := [.ref (3 + n + 3)]) rfl rfl rfl rfl rfl rfl (c_paneAt_in hP h8 hn) ?_
  refine R_go 6 (pc' := 19) (L' := [some (.ref 3), some (.int (nI n)), some (.int (nI s)), some (.int w), some (.int u), some (.ref (3 + n + 3)), none, none]) (st' := [.int 99, .int 0, .int (nI s)]) (h' := mk M T) (fun _ => rfl) ?_
  refine R_call2 (i := .invokestatic 78) (kd := 1) (y := M_X7_within) (as := [.int (nI s), .int 0, .int 99]) (r := []) (L0 := [some (.int (nI s)), some (.int 0), some (.int 99)]) (v1 := some (.int 1)) (v2 := some (.int 0)) (h1' := mk M T) (h2' := mk M T) (pc' := 22) (st1 := [.int 1]) (st2 := [.int 0]) rfl rfl rfl rfl rfl rfl (c_within) (fun g1 => ?_) (fun g1 => ?_)
  · refine R_go 4 (pc' := 35) (L' := [some (.ref 3), some (.int (nI n)), some (.int (nI s)), some (.int w), some (.int u), some (.ref (3 + n + 3)), none, none]) (st' := [.int 23, .int 0, .int w]) (h' := mk M T) (fun _ => rfl) ?_
    refine R_call2 (i := .invokestatic 78) (kd := 1) (y := M_X7_within) (as := [.int w, .int 0, .int 23]) (r := []) (L0 := [some (.int w), some (.int 0), some (.int 23)]) (v1 := some (.int 1)) (v2 := some (.int 0)) (h1' := mk M T) (h2' := mk M T) (pc' := 38) (st1 := [.int 1]) (st2 := [.int 0]) rfl rfl rfl rfl rfl rfl (c_within) (fun g2 => ?_) (fun g2 => ?_)
    · exact absurd g2 (hv)
    · refine R_go 3 (pc' := 53) (L' := [some (.ref 3), some (.int (nI n)), some (.int (nI s)), some (.int w), some (.int u), some (.ref (3 + n + 3)), none, none]) (st' := [.int 1, .ref 3]) (h' := mk M T) (fun _ => rfl) ?_
      refine R_callD (i := .invokevirtual 75) (kd := 0) (y := M_X7_error) (as := [.ref 3, .int 1]) (r := []) (L0 := [some (.ref 3), some (.int 1)]) (v := some (.int (-1000000001))) (h' := mk (up M 60 1 (M 60 1 + 1)) T) (pc' := 56) (st' := [.int (-1000000001)]) rfl rfl rfl rfl rfl rfl (c_error_1) ?_
      refine R_ret 1 (pcr := 56) (v := some (.int (-1000000001))) (h' := mk (up M 60 1 (M 60 1 + 1)) T) (fun _ => rfl) ?_
      exact ⟨rfl, rfl⟩
  · exact absurd (nI_in2 (a := 0) (b := 99) (by omega) (by omega) (by omega)) g1
set_option maxRecDepth 100000 in
set_option maxHeartbeats 4000000 in
theorem m_odds_b2 {ro : xRO} {d : Nat} {M : xM} {T : Nat} {P : Nat} (hP : M 62 6 = nI P) (h8 : P ≤ 8) {n : Nat} (hn : n < P) {s : Nat} {w u : Int32} (hs : s ≤ 99) (hv : ¬ (0 ≤ w ∧ w ≤ 23)) : Rn ro (d + 90) M_X8_odds 0 [some (.ref 64), some (.int (nI n)), some (.int (nI s)), some (.int w), some (.int u), none, none, none] [] (mk M T) (fun r h => r = some (.int (-1000000001)) ∧ h = mk (up M 64 1 (M 64 1 + 1)) T) := by
  refine R_go 2 (pc' := 2) (L' := [some (.ref 64), some (.int (nI n)), some (.int (nI s)), some (.int w), some (.int u), none, none, none]) (st' := [.int (nI n), .ref 64]) (h' := mk M T) (fun _ => rfl) ?_
  refine R_call2 (i := .invokevirtual 92) (kd := 0) (y := M_X8_isPane) (as := [.ref 64, .int (nI n)]) (r := []) (L0 := [some (.ref 64), some (.int (nI n))]) (v1 := some (.int 1)) (v2 := some (.int 0)) (h1' := mk M T) (h2' := mk M T) (pc' := 5) (st1 := [.int 1]) (st2 := [.int 0]) rfl rfl rfl rfl rfl rfl (m_isPane hP h8) (fun g1 => ?_) (fun g1 => ?_)
  · refine R_go 4 (pc' := 12) (L' := [some (.ref 64), some (.int (nI n)), some (.int (nI s)), some (.int w), some (.int u), none, none, none]) (st' := [.int 99, .int 0, .int (nI s)]) (h' := mk M T) (fun _ => rfl) ?_
    refine R_call2 (i := .invokestatic 53) (kd := 1) (y := M_X8_in) (as := [.int (nI s), .int 0, .int 99]) (r := []) (L0 := [some (.int (nI s)), some (.int 0), some (.int 99)]) (v1 := some (.int 1)) (v2 := some (.int 0)) (h1' := mk M T) (h2' := mk M T) (pc' := 15) (st1 := [.int 1]) (st2 := [.int 0]) rfl rfl rfl rfl rfl rfl (m_in) (fun g2 => ?_) (fun g2 => ?_)
    · refine R_go 4 (pc' := 22) (L' := [some (.ref 64), some (.int (nI n)), some (.int (nI s)), some (.int w), some (.int u), none, none, none]) (st' := [.int 23, .int 0, .int w]) (h' := mk M T) (fun _ => rfl) ?_
      refine R_call2 (i := .invokestatic 53) (kd := 1) (y := M_X8_in) (as := [.int w, .int 0, .int 23]) (r := []) (L0 := [some (.int w), some (.int 0), some (.int 23)]) (v1 := some (.int 1)) (v2 := some (.int 0)) (h1' := mk M T) (h2' := mk M T) (pc' := 25) (st1 := [.int 1]) (st2 := [.int 0]) rfl rfl rfl rfl rfl rfl (m_in) (fun g3 => ?_) (fun g3 => ?_)
      · exact absurd g3 (hv)
      · refine R_go 3 (pc' := 41) (L' := [some (.ref 64), some (.int (nI n)), some (.int (nI s)), some (.int w), some (.int u), none, none, none]) (st' := [.int (-1000000001), .ref 64]) (h' := mk M T) (fun _ => rfl) ?_
        refine R_callD (i := .invokevirtual 81) (kd := 0) (y := M_X8_error) (as := [.ref 64, .int (-1000000001)]) (r := []) (L0 := [some (.ref 64), some (.int (-1000000001))]) (v := some (.int (-1000000001))) (h' := mk (up M 64 1 (M 64 1 + 1)) T) (pc' := 44) (st' := [.int (-1000000001)]) rfl rfl rfl rfl rfl rfl (m_error_1) ?_
        refine R_ret 1 (pcr := 44) (v := some (.int (-1000000001))) (h' := mk (up M 64 1 (M 64 1 + 1)) T) (fun _ => rfl) ?_
        exact ⟨rfl, rfl⟩
    · exact absurd (nI_in2 (a := 0) (b := 99) (by omega) (by omega) (by omega)) g2
  · exact absurd (⟨nI_pos' (by omega), nI_lt hn (by omega)⟩) g1
set_option maxRecDepth 100000 in
set_option maxHeartbeats 4000000 in
theorem x_odds_b3 {ro : xRO} {d : Nat} {M : xM} {T : Nat} {P : Nat} (hP : M 1 6 = nI P) (h8 : P ≤ 8) {n : Nat} (hn : n < P) {s t : Nat} {u : Int32} (hs : s ≤ 99) (ht : t ≤ 23) (hv : ¬ (0 ≤ u ∧ u ≤ 1)) : Rn ro (d + 90) M_X7_odds 0 [some (.ref 3), some (.int (nI n)), some (.int (nI s)), some (.int (nI t)), some (.int u), none, none, none] [] (mk M T) (fun r h => r = some (.int (-1000000001)) ∧ h = mk (up M 60 1 (M 60 1 + 1)) T) := by
  refine R_go 3 (pc' := 5) (L' := [some (.ref 3), some (.int (nI n)), some (.int (nI s)), some (.int (nI t)), some (.int u), none, none, none]) (st' := [.int (nI n), .ref 4]) (h' := mk M T) (fun _ => rfl) ?_
  refine R_callD (i := .invokevirtual 116) (kd := 0) (y := M_X0_paneAt) (as := [.ref 4, .int (nI n)]) (r := []) (L0 := [some (.ref 4), some (.int (nI n))]) (v := some (.ref (3 + n + 3))) (h' := mk M T) (pc' := 8) (st' := [.ref (3 + n + 3)]) rfl rfl rfl rfl rfl rfl (c_paneAt_in hP h8 hn) ?_
  refine R_go 6 (pc' := 19) (L' := [some (.ref 3), some (.int (nI n)), some (.int (nI s)), some (.int (nI t)), some (.int u), some (.ref (3 + n + 3)), none, none]) (st' := [.int 99, .int 0, .int (nI s)]) (h' := mk M T) (fun _ => rfl) ?_
  refine R_call2 (i := .invokestatic 78) (kd := 1) (y := M_X7_within) (as := [.int (nI s), .int 0, .int 99]) (r := []) (L0 := [some (.int (nI s)), some (.int 0), some (.int 99)]) (v1 := some (.int 1)) (v2 := some (.int 0)) (h1' := mk M T) (h2' := mk M T) (pc' := 22) (st1 := [.int 1]) (st2 := [.int 0]) rfl rfl rfl rfl rfl rfl (c_within) (fun g1 => ?_) (fun g1 => ?_)
  · refine R_go 4 (pc' := 35) (L' := [some (.ref 3), some (.int (nI n)), some (.int (nI s)), some (.int (nI t)), some (.int u), some (.ref (3 + n + 3)), none, none]) (st' := [.int 23, .int 0, .int (nI t)]) (h' := mk M T) (fun _ => rfl) ?_
    refine R_call2 (i := .invokestatic 78) (kd := 1) (y := M_X7_within) (as := [.int (nI t), .int 0, .int 23]) (r := []) (L0 := [some (.int (nI t)), some (.int 0), some (.int 23)]) (v1 := some (.int 1)) (v2 := some (.int 0)) (h1' := mk M T) (h2' := mk M T) (pc' := 38) (st1 := [.int 1]) (st2 := [.int 0]) rfl rfl rfl rfl rfl rfl (c_within) (fun g2 => ?_) (fun g2 => ?_)
    · refine R_go 4 (pc' := 45) (L' := [some (.ref 3), some (.int (nI n)), some (.int (nI s)), some (.int (nI t)), some (.int u), some (.ref (3 + n + 3)), none, none]) (st' := [.int 1, .int 0, .int u]) (h' := mk M T) (fun _ => rfl) ?_
      refine R_call2 (i := .invokestatic 78) (kd := 1) (y := M_X7_within) (as := [.int u, .int 0, .int 1]) (r := []) (L0 := [some (.int u), some (.int 0), some (.int 1)]) (v1 := some (.int 1)) (v2 := some (.int 0)) (h1' := mk M T) (h2' := mk M T) (pc' := 48) (st1 := [.int 1]) (st2 := [.int 0]) rfl rfl rfl rfl rfl rfl (c_within) (fun g3 => ?_) (fun g3 => ?_)
      · exact absurd g3 (hv)
      · refine R_go 3 (pc' := 53) (L' := [some (.ref 3), some (.int (nI n)), some (.int (nI s)), some (.int (nI t)), some (.int u), some (.ref (3 + n + 3)), none, none]) (st' := [.int 1, .ref 3]) (h' := mk M T) (fun _ => rfl) ?_
        refine R_callD (i := .invokevirtual 75) (kd := 0) (y := M_X7_error) (as := [.ref 3, .int 1]) (r := []) (L0 := [some (.ref 3), some (.int 1)]) (v := some (.int (-1000000001))) (h' := mk (up M 60 1 (M 60 1 + 1)) T) (pc' := 56) (st' := [.int (-1000000001)]) rfl rfl rfl rfl rfl rfl (c_error_1) ?_
        refine R_ret 1 (pcr := 56) (v := some (.int (-1000000001))) (h' := mk (up M 60 1 (M 60 1 + 1)) T) (fun _ => rfl) ?_
        exact ⟨rfl, rfl⟩
    · exact absurd (nI_in2 (a := 0) (b := 23) (by omega) (by omega) (by omega)) g2
  · exact absurd (nI_in2 (a := 0) (b := 99) (by omega) (by omega) (by omega)) g1
set_option maxRecDepth 100000 in
set_option maxHeartbeats 4000000 in
theorem m_odds_b3 {ro : xRO} {d : Nat} {M : xM} {T : Nat} {P : Nat} (hP : M 62 6 = nI P) (h8 : P ≤ 8) {n : Nat} (hn : n < P) {s t : Nat} {u : Int32} (hs : s ≤ 99) (ht : t ≤ 23) (hv : ¬ (0 ≤ u ∧ u ≤ 1)) : Rn ro (d + 90) M_X8_odds 0 [some (.ref 64), some (.int (nI n)), some (.int (nI s)), some (.int (nI t)), some (.int u), none, none, none] [] (mk M T) (fun r h => r = some (.int (-1000000001)) ∧ h = mk (up M 64 1 (M 64 1 + 1)) T) := by
  refine R_go 2 (pc' := 2) (L' := [some (.ref 64), some (.int (nI n)), some (.int (nI s)), some (.int (nI t)), some (.int u), none, none, none]) (st' := [.int (nI n), .ref 64]) (h' := mk M T) (fun _ => rfl) ?_
  refine R_call2 (i := .invokevirtual 92) (kd := 0) (y := M_X8_isPane) (as := [.ref 64, .int (nI n)]) (r := []) (L0 := [some (.ref 64), some (.int (nI n))]) (v1 := some (.int 1)) (v2 := some (.int 0)) (h1' := mk M T) (h2' := mk M T) (pc' := 5) (st1 := [.int 1]) (st2 := [.int 0]) rfl rfl rfl rfl rfl rfl (m_isPane hP h8) (fun g1 => ?_) (fun g1 => ?_)
  · refine R_go 4 (pc' := 12) (L' := [some (.ref 64), some (.int (nI n)), some (.int (nI s)), some (.int (nI t)), some (.int u), none, none, none]) (st' := [.int 99, .int 0, .int (nI s)]) (h' := mk M T) (fun _ => rfl) ?_
    refine R_call2 (i := .invokestatic 53) (kd := 1) (y := M_X8_in) (as := [.int (nI s), .int 0, .int 99]) (r := []) (L0 := [some (.int (nI s)), some (.int 0), some (.int 99)]) (v1 := some (.int 1)) (v2 := some (.int 0)) (h1' := mk M T) (h2' := mk M T) (pc' := 15) (st1 := [.int 1]) (st2 := [.int 0]) rfl rfl rfl rfl rfl rfl (m_in) (fun g2 => ?_) (fun g2 => ?_)
    · refine R_go 4 (pc' := 22) (L' := [some (.ref 64), some (.int (nI n)), some (.int (nI s)), some (.int (nI t)), some (.int u), none, none, none]) (st' := [.int 23, .int 0, .int (nI t)]) (h' := mk M T) (fun _ => rfl) ?_
      refine R_call2 (i := .invokestatic 53) (kd := 1) (y := M_X8_in) (as := [.int (nI t), .int 0, .int 23]) (r := []) (L0 := [some (.int (nI t)), some (.int 0), some (.int 23)]) (v1 := some (.int 1)) (v2 := some (.int 0)) (h1' := mk M T) (h2' := mk M T) (pc' := 25) (st1 := [.int 1]) (st2 := [.int 0]) rfl rfl rfl rfl rfl rfl (m_in) (fun g3 => ?_) (fun g3 => ?_)
      · refine R_go 4 (pc' := 32) (L' := [some (.ref 64), some (.int (nI n)), some (.int (nI s)), some (.int (nI t)), some (.int u), none, none, none]) (st' := [.int 1, .int 0, .int u]) (h' := mk M T) (fun _ => rfl) ?_
        refine R_call2 (i := .invokestatic 53) (kd := 1) (y := M_X8_in) (as := [.int u, .int 0, .int 1]) (r := []) (L0 := [some (.int u), some (.int 0), some (.int 1)]) (v1 := some (.int 1)) (v2 := some (.int 0)) (h1' := mk M T) (h2' := mk M T) (pc' := 35) (st1 := [.int 1]) (st2 := [.int 0]) rfl rfl rfl rfl rfl rfl (m_in) (fun g4 => ?_) (fun g4 => ?_)
        · exact absurd g4 (hv)
        · refine R_go 3 (pc' := 41) (L' := [some (.ref 64), some (.int (nI n)), some (.int (nI s)), some (.int (nI t)), some (.int u), none, none, none]) (st' := [.int (-1000000001), .ref 64]) (h' := mk M T) (fun _ => rfl) ?_
          refine R_callD (i := .invokevirtual 81) (kd := 0) (y := M_X8_error) (as := [.ref 64, .int (-1000000001)]) (r := []) (L0 := [some (.ref 64), some (.int (-1000000001))]) (v := some (.int (-1000000001))) (h' := mk (up M 64 1 (M 64 1 + 1)) T) (pc' := 44) (st' := [.int (-1000000001)]) rfl rfl rfl rfl rfl rfl (m_error_1) ?_
          refine R_ret 1 (pcr := 44) (v := some (.int (-1000000001))) (h' := mk (up M 64 1 (M 64 1 + 1)) T) (fun _ => rfl) ?_
          exact ⟨rfl, rfl⟩
      · exact absurd (nI_in2 (a := 0) (b := 23) (by omega) (by omega) (by omega)) g3
    · exact absurd (nI_in2 (a := 0) (b := 99) (by omega) (by omega) (by omega)) g2
  · exact absurd (⟨nI_pos' (by omega), nI_lt hn (by omega)⟩) g1
set_option maxRecDepth 100000 in
set_option maxHeartbeats 4000000 in
theorem lp_x_odds {ro : xRO} {d : Nat} {M : xM} {T : Nat} {Q : Option Value → xH → Prop} {n : Nat} (hn : n < 8) {kd m fc cl lamp s t p : Nat} (hF : paneF M (3 + n) kd m fc cl) (hl : M 1 13 = nI lamp) (l1 : lamp ≤ 1) (hs : s ≤ 99) (ht : t ≤ 23) (hp : p ≤ 1) : ∀ (k : Nat) (c g : Nat), c + k = 41 → g ≤ c → (Rn ro (d + 90) M_X7_odds 98 [some (.ref 3), some (.int (nI n)), some (.int (nI s)), some (.int (nI t)), some (.int (nI p)), some (.ref (3 + n + 3)), some (.int (nI (g + cnt (fun c => decide (s ≤ lftN kd m fc cl t c lamp)) c k))), some (.int 41)] [] (mk M T) Q) → Rn ro (d + 90) M_X7_odds 63 [some (.ref 3), some (.int (nI n)), some (.int (nI s)), some (.int (nI t)), some (.int (nI p)), some (.ref (3 + n + 3)), some (.int (nI g)), some (.int (nI c))] [] (mk M T) Q := by
  intro k
  induction k with
  | zero =>
    intro c g hc hg k1
    obtain rfl : c = 41 := by omega
    refine R_go 3 (pc' := 98) (L' := [some (.ref 3), some (.int (nI n)), some (.int (nI s)), some (.int (nI t)), some (.int (nI p)), some (.ref (3 + n + 3)), some (.int (nI g)), some (.int 41)]) (st' := []) (h' := mk M T) (fun _ => rfl) ?_
    exact k1
  | succ k ih =>
    intro c g hc hg k1
    obtain ⟨-, -, -, -, z1, z2, z3, z4⟩ := id hF
    have q9 := lftN_le (kd := kd) (fc := fc) (lamp := lamp) (hour := t) z2 z4 (show c ≤ 40 by omega)
    refine R_if 3 (c := 41 ≤ (nI c)) (t := 98) (f := 70) (L' := [some (.ref 3), some (.int (nI n)), some (.int (nI s)), some (.int (nI t)), some (.int (nI p)), some (.ref (3 + n + 3)), some (.int (nI g)), some (.int (nI c))]) (st' := []) (h' := mk M T) (fun _ => rfl) (fun g1 => ?_) (fun g1 => ?_)
    · replace g1 : 41 ≤ c := (nI_leI (a := 41) (b := c) (by omega) (by omega)).mp g1
      omega
    · replace g1 : ¬ 41 ≤ c := fun q => g1 ((nI_leI (a := 41) (b := c) (by omega) (by omega)).mpr q)
      refine R_go 6 (pc' := 82) (L' := [some (.ref 3), some (.int (nI n)), some (.int (nI s)), some (.int (nI t)), some (.int (nI p)), some (.ref (3 + n + 3)), some (.int (nI g)), some (.int (nI c))]) (st' := [.int (M 1 13), .int (nI c), .int (nI t), .ref (3 + n + 3)]) (h' := mk M T) (fun _ => rfl) ?_
      refine R_top (y := nI lamp) (hl) ?_
      refine R_callD (i := .invokevirtual 211) (kd := 0) (y := M_X1_leftAt) (as := [.ref (3 + n + 3), .int (nI t), .int (nI c), .int (nI lamp)]) (r := []) (L0 := [some (.ref (3 + n + 3)), some (.int (nI t)), some (.int (nI c)), some (.int (nI lamp))]) (v := some (.int (nI (lftN kd m fc cl t c lamp)))) (h' := mk M T) (pc' := 85) (st' := [.int (nI (lftN kd m fc cl t c lamp))]) rfl rfl rfl rfl (xPre_c (sh_pane (by omega)) rfl rfl rfl rfl) rfl (c_leftAt (sh_pane (by omega)) hF (by omega) (by omega) l1) ?_
      refine R_if 2 (c := (nI (lftN kd m fc cl t c lamp)) < (nI s)) (t := 92) (f := 89) (L' := [some (.ref 3), some (.int (nI n)), some (.int (nI s)), some (.int (nI t)), some (.int (nI p)), some (.ref (3 + n + 3)), some (.int (nI g)), some (.int (nI c))]) (st' := []) (h' := mk M T) (fun _ => rfl) (fun g2 => ?_) (fun g2 => ?_)
      · replace g2 : (lftN kd m fc cl t c lamp) < s := (nI_ltI (a := lftN kd m fc cl t c lamp) (b := s) (by omega) (by omega)).mp g2
        refine R_go 1 (pc' := 95) (L' := [some (.ref 3), some (.int (nI n)), some (.int (nI s)), some (.int (nI t)), some (.int (nI p)), some (.ref (3 + n + 3)), some (.int (nI g)), some (.int ((nI c) + 1))]) (st' := []) (h' := mk M T) (fun _ => rfl) ?_
        rw [nI_1]
        refine R_go 1 (pc' := 63) (L' := [some (.ref 3), some (.int (nI n)), some (.int (nI s)), some (.int (nI t)), some (.int (nI p)), some (.ref (3 + n + 3)), some (.int (nI g)), some (.int (nI (c + 1)))]) (st' := []) (h' := mk M T) (fun _ => rfl) ?_
        have e : g + cnt (fun c => decide (s ≤ lftN kd m fc cl t c lamp)) c (k + 1) = g + 0 + cnt (fun c => decide (s ≤ lftN kd m fc cl t c lamp)) (c + 1) k := by rw [cnt, if_neg (by simp only [decide_eq_true_eq]; omega)]; omega
        rw [Nat.add_zero] at e
        rw [e] at k1
        exact ih (c + 1) (g) (by omega) (by omega) k1
      · replace g2 : ¬ (lftN kd m fc cl t c lamp) < s := fun q => g2 ((nI_ltI (a := lftN kd m fc cl t c lamp) (b := s) (by omega) (by omega)).mpr q)
        refine R_go 1 (pc' := 92) (L' := [some (.ref 3), some (.int (nI n)), some (.int (nI s)), some (.int (nI t)), some (.int (nI p)), some (.ref (3 + n + 3)), some (.int ((nI g) + 1)), some (.int (nI c))]) (st' := []) (h' := mk M T) (fun _ => rfl) ?_
        rw [nI_1]
        refine R_go 1 (pc' := 95) (L' := [some (.ref 3), some (.int (nI n)), some (.int (nI s)), some (.int (nI t)), some (.int (nI p)), some (.ref (3 + n + 3)), some (.int (nI (g + 1))), some (.int ((nI c) + 1))]) (st' := []) (h' := mk M T) (fun _ => rfl) ?_
        rw [nI_1]
        refine R_go 1 (pc' := 63) (L' := [some (.ref 3), some (.int (nI n)), some (.int (nI s)), some (.int (nI t)), some (.int (nI p)), some (.ref (3 + n + 3)), some (.int (nI (g + 1))), some (.int (nI (c + 1)))]) (st' := []) (h' := mk M T) (fun _ => rfl) ?_
        have e : g + cnt (fun c => decide (s ≤ lftN kd m fc cl t c lamp)) c (k + 1) = g + 1 + cnt (fun c => decide (s ≤ lftN kd m fc cl t c lamp)) (c + 1) k := by rw [cnt, if_pos (by simp only [decide_eq_true_eq]; omega)]; omega
        rw [e] at k1
        exact ih (c + 1) (g + 1) (by omega) (by omega) k1
set_option maxRecDepth 100000 in
set_option maxHeartbeats 4000000 in
theorem lp_m_odds {ro : xRO} {d : Nat} {M : xM} {T : Nat} {Q : Option Value → xH → Prop} {n : Nat} (hn : n < 8) {kd m fc cl cold lamp s t p : Nat} (hF : rpF M n kd m fc cl) (hc : M 62 0 = nI cold) (hl : M 62 2 = nI lamp) (c1 : cold ≤ 40) (l1 : lamp ≤ 1) (hb : M 61 7 = 0) (hs : s ≤ 99) (ht : t ≤ 23) (hp : p ≤ 1) : ∀ (k : Nat) (M' : xM) (c g : Nat), coX M M' → c + k = 41 → g ≤ c → (∀ M', coX M M' → Rn ro (d + 90) M_X8_odds 100 [some (.ref 64), some (.int (nI n)), some (.int (nI s)), some (.int (nI t)), some (.int (nI p)), some (.int (nI cold)), some (.int (nI (g + cnt (fun c => decide (s ≤ lftN kd m fc cl t c lamp)) c k))), some (.int 41)] [] (mk M' T) Q) → Rn ro (d + 90) M_X8_odds 59 [some (.ref 64), some (.int (nI n)), some (.int (nI s)), some (.int (nI t)), some (.int (nI p)), some (.int (nI cold)), some (.int (nI g)), some (.int (nI c))] [] (mk M' T) Q := by
  intro k
  induction k with
  | zero =>
    intro M' c g hM hc hg k1
    obtain rfl : c = 41 := by omega
    refine R_go 3 (pc' := 100) (L' := [some (.ref 64), some (.int (nI n)), some (.int (nI s)), some (.int (nI t)), some (.int (nI p)), some (.int (nI cold)), some (.int (nI g)), some (.int 41)]) (st' := []) (h' := mk M' T) (fun _ => rfl) ?_
    exact k1 M' hM
  | succ k ih =>
    intro M' c g hM hc hg k1
    obtain ⟨-, -, -, -, z1, z2, z3, z4⟩ := id hF
    have q9 := lftN_le (kd := kd) (fc := fc) (lamp := lamp) (hour := t) z2 z4 (show c ≤ 40 by omega)
    refine R_if 3 (c := 40 < (nI c)) (t := 100) (f := 66) (L' := [some (.ref 64), some (.int (nI n)), some (.int (nI s)), some (.int (nI t)), some (.int (nI p)), some (.int (nI cold)), some (.int (nI g)), some (.int (nI c))]) (st' := []) (h' := mk M' T) (fun _ => rfl) (fun g1 => ?_) (fun g1 => ?_)
    · replace g1 : 40 < c := (nI_ltI (a := 40) (b := c) (by omega) (by omega)).mp g1
      omega
    · replace g1 : ¬ 40 < c := fun q => g1 ((nI_ltI (a := 40) (b := c) (by omega) (by omega)).mpr q)
      refine R_go 9 (pc' := 79) (L' := [some (.ref 64), some (.int (nI n)), some (.int (nI s)), some (.int (nI t)), some (.int (nI p)), some (.int (nI cold)), some (.int (nI g)), some (.int (nI c))]) (st' := [.int (nI t), .int (nI n), .ref 64, .int (nI g)]) (h' := mk (up M' 62 0 (nI c)) T) (fun _ => rfl) ?_
      refine R_callD (i := .invokevirtual 159) (kd := 0) (y := M_X8_leftOf) (as := [.ref 64, .int (nI n), .int (nI t)]) (r := [.int (nI g)]) (L0 := [some (.ref 64), some (.int (nI n)), some (.int (nI t)), none, none, none]) (v := some (.int (nI (lftN kd m fc cl t c lamp)))) (h' := mk (up M' 62 0 (nI c)) T) (pc' := 82) (st' := [.int (nI (lftN kd m fc cl t c lamp)), .int (nI g)]) rfl rfl rfl rfl rfl rfl (m_leftOf (p := n) (cold := c) (by omega) (coX_rpF (coX_up hM) hF) up_at ((coX_rd (coX_up hM) (by omega)).trans hl) (by omega) l1 (by omega) (by rw [coX_rd (coX_up hM) (by omega), hb]; exact bit_0 (by omega))) ?_
      refine R_if 2 (c := (nI (lftN kd m fc cl t c lamp)) < (nI s)) (t := 90) (f := 86) (L' := [some (.ref 64), some (.int (nI n)), some (.int (nI s)), some (.int (nI t)), some (.int (nI p)), some (.int (nI cold)), some (.int (nI g)), some (.int (nI c))]) (st' := [.int (nI g)]) (h' := mk (up M' 62 0 (nI c)) T) (fun _ => rfl) (fun g2 => ?_) (fun g2 => ?_)
      · replace g2 : (lftN kd m fc cl t c lamp) < s := (nI_ltI (a := lftN kd m fc cl t c lamp) (b := s) (by omega) (by omega)).mp g2
        refine R_go 2 (pc' := 92) (L' := [some (.ref 64), some (.int (nI n)), some (.int (nI s)), some (.int (nI t)), some (.int (nI p)), some (.int (nI cold)), some (.int (nI g)), some (.int (nI c))]) (st' := [.int (nI g + 0)]) (h' := mk (up M' 62 0 (nI c)) T) (fun _ => rfl) ?_
        refine R_top (nI_add g 0) ?_
        refine R_go 2 (pc' := 97) (L' := [some (.ref 64), some (.int (nI n)), some (.int (nI s)), some (.int (nI t)), some (.int (nI p)), some (.int (nI cold)), some (.int (nI (g + 0))), some (.int ((nI c) + 1))]) (st' := []) (h' := mk (up M' 62 0 (nI c)) T) (fun _ => rfl) ?_
        rw [nI_1]
        refine R_go 1 (pc' := 59) (L' := [some (.ref 64), some (.int (nI n)), some (.int (nI s)), some (.int (nI t)), some (.int (nI p)), some (.int (nI cold)), some (.int (nI (g + 0))), some (.int (nI (c + 1)))]) (st' := []) (h' := mk (up M' 62 0 (nI c)) T) (fun _ => rfl) ?_
        have e : g + cnt (fun c => decide (s ≤ lftN kd m fc cl t c lamp)) c (k + 1) = g + 0 + cnt (fun c => decide (s ≤ lftN kd m fc cl t c lamp)) (c + 1) k := by rw [cnt, if_neg (by simp only [decide_eq_true_eq]; omega)]; omega
        rw [e] at k1
        exact ih (up M' 62 0 (nI c)) (c + 1) (g + 0) (coX_up hM) (by omega) (by omega) k1
      · replace g2 : ¬ (lftN kd m fc cl t c lamp) < s := fun q => g2 ((nI_ltI (a := lftN kd m fc cl t c lamp) (b := s) (by omega) (by omega)).mpr q)
        refine R_go 3 (pc' := 92) (L' := [some (.ref 64), some (.int (nI n)), some (.int (nI s)), some (.int (nI t)), some (.int (nI p)), some (.int (nI cold)), some (.int (nI g)), some (.int (nI c))]) (st' := [.int (nI g + 1)]) (h' := mk (up M' 62 0 (nI c)) T) (fun _ => rfl) ?_
        refine R_top (nI_add g 1) ?_
        refine R_go 2 (pc' := 97) (L' := [some (.ref 64), some (.int (nI n)), some (.int (nI s)), some (.int (nI t)), some (.int (nI p)), some (.int (nI cold)), some (.int (nI (g + 1))), some (.int ((nI c) + 1))]) (st' := []) (h' := mk (up M' 62 0 (nI c)) T) (fun _ => rfl) ?_
        rw [nI_1]
        refine R_go 1 (pc' := 59) (L' := [some (.ref 64), some (.int (nI n)), some (.int (nI s)), some (.int (nI t)), some (.int (nI p)), some (.int (nI cold)), some (.int (nI (g + 1))), some (.int (nI (c + 1)))]) (st' := []) (h' := mk (up M' 62 0 (nI c)) T) (fun _ => rfl) ?_
        have e : g + cnt (fun c => decide (s ≤ lftN kd m fc cl t c lamp)) c (k + 1) = g + 1 + cnt (fun c => decide (s ≤ lftN kd m fc cl t c lamp)) (c + 1) k := by rw [cnt, if_pos (by simp only [decide_eq_true_eq]; omega)]; omega
        rw [e] at k1
        exact ih (up M' 62 0 (nI c)) (c + 1) (g + 1) (coX_up hM) (by omega) (by omega) k1
set_option maxRecDepth 100000 in
set_option maxHeartbeats 4000000 in
theorem x_odds_i {ro : xRO} {d : Nat} {M : xM} {T : Nat} {P : Nat} (hP : M 1 6 = nI P) (h8 : P ≤ 8) {n : Nat} (hn : n < P) {kd m fc cl lamp s t p : Nat} (hF : paneF M (3 + n) kd m fc cl) (hl : M 1 13 = nI lamp) (l1 : lamp ≤ 1) (hs : s ≤ 99) (ht : t ≤ 23) (hp : p ≤ 1) {x : Nat} (hx : cnt (fun c => decide (s ≤ lftN kd m fc cl t c lamp)) 0 41 = x) (x41 : x ≤ 41) : Rn ro (d + 90) M_X7_odds 0 [some (.ref 3), some (.int (nI n)), some (.int (nI s)), some (.int (nI t)), some (.int (nI p)), none, none, none] [] (mk M T) (fun r h => r = some (.int (nI (odN x p))) ∧ h = mk M T) := by
  refine R_go 3 (pc' := 5) (L' := [some (.ref 3), some (.int (nI n)), some (.int (nI s)), some (.int (nI t)), some (.int (nI p)), none, none, none]) (st' := [.int (nI n), .ref 4]) (h' := mk M T) (fun _ => rfl) ?_
  refine R_callD (i := .invokevirtual 116) (kd := 0) (y := M_X0_paneAt) (as := [.ref 4, .int (nI n)]) (r := []) (L0 := [some (.ref 4), some (.int (nI n))]) (v := some (.ref (3 + n + 3))) (h' := mk M T) (pc' := 8) (st' := [.ref (3 + n + 3)]) rfl rfl rfl rfl rfl rfl (c_paneAt_in hP h8 hn) ?_
  refine R_go 6 (pc' := 19) (L' := [some (.ref 3), some (.int (nI n)), some (.int (nI s)), some (.int (nI t)), some (.int (nI p)), some (.ref (3 + n + 3)), none, none]) (st' := [.int 99, .int 0, .int (nI s)]) (h' := mk M T) (fun _ => rfl) ?_
  refine R_call2 (i := .invokestatic 78) (kd := 1) (y := M_X7_within) (as := [.int (nI s), .int 0, .int 99]) (r := []) (L0 := [some (.int (nI s)), some (.int 0), some (.int 99)]) (v1 := some (.int 1)) (v2 := some (.int 0)) (h1' := mk M T) (h2' := mk M T) (pc' := 22) (st1 := [.int 1]) (st2 := [.int 0]) rfl rfl rfl rfl rfl rfl (c_within) (fun g1 => ?_) (fun g1 => ?_)
  · refine R_go 4 (pc' := 35) (L' := [some (.ref 3), some (.int (nI n)), some (.int (nI s)), some (.int (nI t)), some (.int (nI p)), some (.ref (3 + n + 3)), none, none]) (st' := [.int 23, .int 0, .int (nI t)]) (h' := mk M T) (fun _ => rfl) ?_
    refine R_call2 (i := .invokestatic 78) (kd := 1) (y := M_X7_within) (as := [.int (nI t), .int 0, .int 23]) (r := []) (L0 := [some (.int (nI t)), some (.int 0), some (.int 23)]) (v1 := some (.int 1)) (v2 := some (.int 0)) (h1' := mk M T) (h2' := mk M T) (pc' := 38) (st1 := [.int 1]) (st2 := [.int 0]) rfl rfl rfl rfl rfl rfl (c_within) (fun g2 => ?_) (fun g2 => ?_)
    · refine R_go 4 (pc' := 45) (L' := [some (.ref 3), some (.int (nI n)), some (.int (nI s)), some (.int (nI t)), some (.int (nI p)), some (.ref (3 + n + 3)), none, none]) (st' := [.int 1, .int 0, .int (nI p)]) (h' := mk M T) (fun _ => rfl) ?_
      refine R_call2 (i := .invokestatic 78) (kd := 1) (y := M_X7_within) (as := [.int (nI p), .int 0, .int 1]) (r := []) (L0 := [some (.int (nI p)), some (.int 0), some (.int 1)]) (v1 := some (.int 1)) (v2 := some (.int 0)) (h1' := mk M T) (h2' := mk M T) (pc' := 48) (st1 := [.int 1]) (st2 := [.int 0]) rfl rfl rfl rfl rfl rfl (c_within) (fun g3 => ?_) (fun g3 => ?_)
      · refine R_go 5 (pc' := 63) (L' := [some (.ref 3), some (.int (nI n)), some (.int (nI s)), some (.int (nI t)), some (.int (nI p)), some (.ref (3 + n + 3)), some (.int 0), some (.int 0)]) (st' := []) (h' := mk M T) (fun _ => rfl) ?_
        refine lp_x_odds (n := n) (by omega) hF hl l1 hs ht hp 41 0 0 rfl (Nat.le_refl 0) ?_
        rw [Nat.zero_add, hx]
        refine R_if 2 (c := (nI x) = 0) (t := 110) (f := 103) (L' := [some (.ref 3), some (.int (nI n)), some (.int (nI s)), some (.int (nI t)), some (.int (nI p)), some (.ref (3 + n + 3)), some (.int (nI x)), some (.int 41)]) (st' := []) (h' := mk M T) (fun _ => rfl) (fun g4 => ?_) (fun g4 => ?_)
        · replace g4 : x = 0 := (nI_eq (a := x) (b := 0) (by omega) (by omega)).mp g4
          refine R_ifn 2 (c := (nI p) = 0) (t := 123) (f := 115) (L' := [some (.ref 3), some (.int (nI n)), some (.int (nI s)), some (.int (nI t)), some (.int (nI p)), some (.ref (3 + n + 3)), some (.int (nI x)), some (.int 41)]) (st' := []) (h' := mk M T) (fun _ => rfl) (fun g5 => ?_) (fun g5 => ?_)
          · replace g5 : ¬ p = 0 := fun q => g5 ((nI_eq (a := p) (b := 0) (by omega) (by omega)).mpr q)
            refine R_ret 2 (pcr := 124) (v := some (.int 1)) (h' := mk M T) (fun _ => rfl) ?_
            exact ⟨congrArg (fun z => some (Value.int (nI z))) (a₁ := 1) (by unfold odN; (repeat' split) <;> omega), rfl⟩
          · replace g5 : p = 0 := (nI_eq (a := p) (b := 0) (by omega) (by omega)).mp g5
            refine R_go 3 (pc' := 120) (L' := [some (.ref 3), some (.int (nI n)), some (.int (nI s)), some (.int (nI t)), some (.int (nI p)), some (.ref (3 + n + 3)), some (.int (nI x)), some (.int 41)]) (st' := [.int ((nI x) / 41)]) (h' := mk M T) (fun _ => rfl) ?_
            refine R_top (pk_div (a := x) (d := 41) (by omega) (by omega) (by omega)) ?_
            refine R_ret 2 (pcr := 124) (v := some (.int (nI (x / 41)))) (h' := mk M T) (fun _ => rfl) ?_
            exact ⟨congrArg (fun z => some (Value.int (nI z))) (a₁ := x / 41) (by unfold odN; (repeat' split) <;> omega), rfl⟩
        · replace g4 : ¬ x = 0 := fun q => g4 ((nI_eq (a := x) (b := 0) (by omega) (by omega)).mpr q)
          refine R_ifn 3 (c := (nI x) = 41) (t := 125) (f := 110) (L' := [some (.ref 3), some (.int (nI n)), some (.int (nI s)), some (.int (nI t)), some (.int (nI p)), some (.ref (3 + n + 3)), some (.int (nI x)), some (.int 41)]) (st' := []) (h' := mk M T) (fun _ => rfl) (fun g6 => ?_) (fun g6 => ?_)
          · replace g6 : ¬ x = 41 := fun q => g6 ((nI_eq (a := x) (b := 41) (by omega) (by omega)).mpr q)
            refine R_ifn 2 (c := (nI p) = 0) (t := 135) (f := 130) (L' := [some (.ref 3), some (.int (nI n)), some (.int (nI s)), some (.int (nI t)), some (.int (nI p)), some (.ref (3 + n + 3)), some (.int (nI x)), some (.int 41)]) (st' := []) (h' := mk M T) (fun _ => rfl) (fun g7 => ?_) (fun g7 => ?_)
            · replace g7 : ¬ p = 0 := fun q => g7 ((nI_eq (a := p) (b := 0) (by omega) (by omega)).mpr q)
              refine R_ret 2 (pcr := 137) (v := some (.int 41)) (h' := mk M T) (fun _ => rfl) ?_
              exact ⟨congrArg (fun z => some (Value.int (nI z))) (a₁ := 41) (by unfold odN; (repeat' split) <;> omega), rfl⟩
            · replace g7 : p = 0 := (nI_eq (a := p) (b := 0) (by omega) (by omega)).mp g7
              refine R_ret 3 (pcr := 137) (v := some (.int (nI x))) (h' := mk M T) (fun _ => rfl) ?_
              exact ⟨congrArg (fun z => some (Value.int (nI z))) (a₁ := x) (by unfold odN; (repeat' split) <;> omega), rfl⟩
          · replace g6 : x = 41 := (nI_eq (a := x) (b := 41) (by omega) (by omega)).mp g6
            refine R_ifn 2 (c := (nI p) = 0) (t := 123) (f := 115) (L' := [some (.ref 3), some (.int (nI n)), some (.int (nI s)), some (.int (nI t)), some (.int (nI p)), some (.ref (3 + n + 3)), some (.int (nI x)), some (.int 41)]) (st' := []) (h' := mk M T) (fun _ => rfl) (fun g8 => ?_) (fun g8 => ?_)
            · replace g8 : ¬ p = 0 := fun q => g8 ((nI_eq (a := p) (b := 0) (by omega) (by omega)).mpr q)
              refine R_ret 2 (pcr := 124) (v := some (.int 1)) (h' := mk M T) (fun _ => rfl) ?_
              exact ⟨congrArg (fun z => some (Value.int (nI z))) (a₁ := 1) (by unfold odN; (repeat' split) <;> omega), rfl⟩
            · replace g8 : p = 0 := (nI_eq (a := p) (b := 0) (by omega) (by omega)).mp g8
              refine R_go 3 (pc' := 120) (L' := [some (.ref 3), some (.int (nI n)), some (.int (nI s)), some (.int (nI t)), some (.int (nI p)), some (.ref (3 + n + 3)), some (.int (nI x)), some (.int 41)]) (st' := [.int ((nI x) / 41)]) (h' := mk M T) (fun _ => rfl) ?_
              refine R_top (pk_div (a := x) (d := 41) (by omega) (by omega) (by omega)) ?_
              refine R_ret 2 (pcr := 124) (v := some (.int (nI (x / 41)))) (h' := mk M T) (fun _ => rfl) ?_
              exact ⟨congrArg (fun z => some (Value.int (nI z))) (a₁ := x / 41) (by unfold odN; (repeat' split) <;> omega), rfl⟩
      · exact absurd (nI_in2 (a := 0) (b := 1) (by omega) (by omega) (by omega)) g3
    · exact absurd (nI_in2 (a := 0) (b := 23) (by omega) (by omega) (by omega)) g2
  · exact absurd (nI_in2 (a := 0) (b := 99) (by omega) (by omega) (by omega)) g1
set_option maxRecDepth 100000 in
set_option maxHeartbeats 4000000 in
theorem m_odds_i {ro : xRO} {d : Nat} {M : xM} {T : Nat} {P : Nat} (hP : M 62 6 = nI P) (h8 : P ≤ 8) {n : Nat} (hn : n < P) {kd m fc cl cold lamp s t p : Nat} (hF : rpF M n kd m fc cl) (hc : M 62 0 = nI cold) (hl : M 62 2 = nI lamp) (c1 : cold ≤ 40) (l1 : lamp ≤ 1) (hb : M 61 7 = 0) (hs : s ≤ 99) (ht : t ≤ 23) (hp : p ≤ 1) {x : Nat} (hx : cnt (fun c => decide (s ≤ lftN kd m fc cl t c lamp)) 0 41 = x) (x41 : x ≤ 41) : Rn ro (d + 90) M_X8_odds 0 [some (.ref 64), some (.int (nI n)), some (.int (nI s)), some (.int (nI t)), some (.int (nI p)), none, none, none] [] (mk M T) (fun r h => r = some (.int (nI (odN x p))) ∧ h = mk M T) := by
  refine R_go 2 (pc' := 2) (L' := [some (.ref 64), some (.int (nI n)), some (.int (nI s)), some (.int (nI t)), some (.int (nI p)), none, none, none]) (st' := [.int (nI n), .ref 64]) (h' := mk M T) (fun _ => rfl) ?_
  refine R_call2 (i := .invokevirtual 92) (kd := 0) (y := M_X8_isPane) (as := [.ref 64, .int (nI n)]) (r := []) (L0 := [some (.ref 64), some (.int (nI n))]) (v1 := some (.int 1)) (v2 := some (.int 0)) (h1' := mk M T) (h2' := mk M T) (pc' := 5) (st1 := [.int 1]) (st2 := [.int 0]) rfl rfl rfl rfl rfl rfl (m_isPane hP h8) (fun g1 => ?_) (fun g1 => ?_)
  · refine R_go 4 (pc' := 12) (L' := [some (.ref 64), some (.int (nI n)), some (.int (nI s)), some (.int (nI t)), some (.int (nI p)), none, none, none]) (st' := [.int 99, .int 0, .int (nI s)]) (h' := mk M T) (fun _ => rfl) ?_
    refine R_call2 (i := .invokestatic 53) (kd := 1) (y := M_X8_in) (as := [.int (nI s), .int 0, .int 99]) (r := []) (L0 := [some (.int (nI s)), some (.int 0), some (.int 99)]) (v1 := some (.int 1)) (v2 := some (.int 0)) (h1' := mk M T) (h2' := mk M T) (pc' := 15) (st1 := [.int 1]) (st2 := [.int 0]) rfl rfl rfl rfl rfl rfl (m_in) (fun g2 => ?_) (fun g2 => ?_)
    · refine R_go 4 (pc' := 22) (L' := [some (.ref 64), some (.int (nI n)), some (.int (nI s)), some (.int (nI t)), some (.int (nI p)), none, none, none]) (st' := [.int 23, .int 0, .int (nI t)]) (h' := mk M T) (fun _ => rfl) ?_
      refine R_call2 (i := .invokestatic 53) (kd := 1) (y := M_X8_in) (as := [.int (nI t), .int 0, .int 23]) (r := []) (L0 := [some (.int (nI t)), some (.int 0), some (.int 23)]) (v1 := some (.int 1)) (v2 := some (.int 0)) (h1' := mk M T) (h2' := mk M T) (pc' := 25) (st1 := [.int 1]) (st2 := [.int 0]) rfl rfl rfl rfl rfl rfl (m_in) (fun g3 => ?_) (fun g3 => ?_)
      · refine R_go 4 (pc' := 32) (L' := [some (.ref 64), some (.int (nI n)), some (.int (nI s)), some (.int (nI t)), some (.int (nI p)), none, none, none]) (st' := [.int 1, .int 0, .int (nI p)]) (h' := mk M T) (fun _ => rfl) ?_
        refine R_call2 (i := .invokestatic 53) (kd := 1) (y := M_X8_in) (as := [.int (nI p), .int 0, .int 1]) (r := []) (L0 := [some (.int (nI p)), some (.int 0), some (.int 1)]) (v1 := some (.int 1)) (v2 := some (.int 0)) (h1' := mk M T) (h2' := mk M T) (pc' := 35) (st1 := [.int 1]) (st2 := [.int 0]) rfl rfl rfl rfl rfl rfl (m_in) (fun g4 => ?_) (fun g4 => ?_)
        · refine R_go 5 (pc' := 51) (L' := [some (.ref 64), some (.int (nI n)), some (.int (nI s)), some (.int (nI t)), some (.int (nI p)), none, none, none]) (st' := [.int (M 62 0)]) (h' := mk M T) (fun _ => rfl) ?_
          refine R_top (y := nI cold) (hc) ?_
          refine R_go 5 (pc' := 59) (L' := [some (.ref 64), some (.int (nI n)), some (.int (nI s)), some (.int (nI t)), some (.int (nI p)), some (.int (nI cold)), some (.int 0), some (.int 0)]) (st' := []) (h' := mk M T) (fun _ => rfl) ?_
          refine lp_m_odds (n := n) (by omega) hF hc hl c1 l1 hb hs ht hp 41 M 0 0 coX_refl rfl (Nat.le_refl 0) (fun M' hM => ?_)
          rw [Nat.zero_add, hx]
          refine R_if 7 (c := (nI x) = 0) (t := 120) (f := 113) (L' := [some (.ref 64), some (.int (nI n)), some (.int (nI s)), some (.int (nI t)), some (.int (nI p)), some (.int (nI cold)), some (.int (nI x)), some (.int 41)]) (st' := []) (h' := mk (up M' 62 0 (nI cold)) T) (fun _ => rfl) (fun g5 => ?_) (fun g5 => ?_)
          · replace g5 : x = 0 := (nI_eq (a := x) (b := 0) (by omega) (by omega)).mp g5
            refine R_ifn 5 (c := (nI p) = 0) (t := 148) (f := 132) (L' := [some (.ref 64), some (.int (nI n)), some (.int (nI s)), some (.int (nI t)), some (.int (nI p)), some (.int (nI cold)), some (.int (nI x)), some (.int 1)]) (st' := []) (h' := mk (up M' 62 0 (nI cold)) T) (fun _ => rfl) (fun g6 => ?_) (fun g6 => ?_)
            · replace g6 : ¬ p = 0 := fun q => g6 ((nI_eq (a := p) (b := 0) (by omega) (by omega)).mpr q)
              refine R_ret 5 (pcr := 159) (v := some (.int 1)) (h' := mk (up M' 62 0 (nI cold)) T) (fun _ => rfl) ?_
              exact ⟨congrArg (fun z => some (Value.int (nI z))) (a₁ := 1) (by unfold odN; (repeat' split) <;> omega), by rw [coX_back hM hc]⟩
            · replace g6 : p = 0 := (nI_eq (a := p) (b := 0) (by omega) (by omega)).mp g6
              refine R_ifn 3 (c := (nI x) = 41) (t := 143) (f := 139) (L' := [some (.ref 64), some (.int (nI n)), some (.int (nI s)), some (.int (nI t)), some (.int (nI p)), some (.int (nI cold)), some (.int (nI x)), some (.int 1)]) (st' := []) (h' := mk (up M' 62 0 (nI cold)) T) (fun _ => rfl) (fun g7 => ?_) (fun g7 => ?_)
              · replace g7 : ¬ x = 41 := fun q => g7 ((nI_eq (a := x) (b := 41) (by omega) (by omega)).mpr q)
                refine R_ret 3 (pcr := 159) (v := some (.int (nI x))) (h' := mk (up M' 62 0 (nI cold)) T) (fun _ => rfl) ?_
                exact ⟨congrArg (fun z => some (Value.int (nI z))) (a₁ := x) (by unfold odN; (repeat' split) <;> omega), by rw [coX_back hM hc]⟩
              · replace g7 : x = 41 := (nI_eq (a := x) (b := 41) (by omega) (by omega)).mp g7
                refine R_ret 3 (pcr := 159) (v := some (.int 1)) (h' := mk (up M' 62 0 (nI cold)) T) (fun _ => rfl) ?_
                exact ⟨congrArg (fun z => some (Value.int (nI z))) (a₁ := 1) (by unfold odN; (repeat' split) <;> omega), by rw [coX_back hM hc]⟩
          · replace g5 : ¬ x = 0 := fun q => g5 ((nI_eq (a := x) (b := 0) (by omega) (by omega)).mpr q)
            refine R_ifn 3 (c := (nI x) = 41) (t := 124) (f := 120) (L' := [some (.ref 64), some (.int (nI n)), some (.int (nI s)), some (.int (nI t)), some (.int (nI p)), some (.int (nI cold)), some (.int (nI x)), some (.int 41)]) (st' := []) (h' := mk (up M' 62 0 (nI cold)) T) (fun _ => rfl) (fun g8 => ?_) (fun g8 => ?_)
            · replace g8 : ¬ x = 41 := fun q => g8 ((nI_eq (a := x) (b := 41) (by omega) (by omega)).mpr q)
              refine R_ifn 4 (c := (nI p) = 0) (t := 148) (f := 132) (L' := [some (.ref 64), some (.int (nI n)), some (.int (nI s)), some (.int (nI t)), some (.int (nI p)), some (.int (nI cold)), some (.int (nI x)), some (.int 0)]) (st' := []) (h' := mk (up M' 62 0 (nI cold)) T) (fun _ => rfl) (fun g9 => ?_) (fun g9 => ?_)
              · replace g9 : ¬ p = 0 := fun q => g9 ((nI_eq (a := p) (b := 0) (by omega) (by omega)).mpr q)
                refine R_ret 4 (pcr := 159) (v := some (.int 41)) (h' := mk (up M' 62 0 (nI cold)) T) (fun _ => rfl) ?_
                exact ⟨congrArg (fun z => some (Value.int (nI z))) (a₁ := 41) (by unfold odN; (repeat' split) <;> omega), by rw [coX_back hM hc]⟩
              · replace g9 : p = 0 := (nI_eq (a := p) (b := 0) (by omega) (by omega)).mp g9
                refine R_ifn 3 (c := (nI x) = 41) (t := 143) (f := 139) (L' := [some (.ref 64), some (.int (nI n)), some (.int (nI s)), some (.int (nI t)), some (.int (nI p)), some (.int (nI cold)), some (.int (nI x)), some (.int 0)]) (st' := []) (h' := mk (up M' 62 0 (nI cold)) T) (fun _ => rfl) (fun g10 => ?_) (fun g10 => ?_)
                · replace g10 : ¬ x = 41 := fun q => g10 ((nI_eq (a := x) (b := 41) (by omega) (by omega)).mpr q)
                  refine R_ret 3 (pcr := 159) (v := some (.int (nI x))) (h' := mk (up M' 62 0 (nI cold)) T) (fun _ => rfl) ?_
                  exact ⟨congrArg (fun z => some (Value.int (nI z))) (a₁ := x) (by unfold odN; (repeat' split) <;> omega), by rw [coX_back hM hc]⟩
                · replace g10 : x = 41 := (nI_eq (a := x) (b := 41) (by omega) (by omega)).mp g10
                  refine R_ret 3 (pcr := 159) (v := some (.int 1)) (h' := mk (up M' 62 0 (nI cold)) T) (fun _ => rfl) ?_
                  exact ⟨congrArg (fun z => some (Value.int (nI z))) (a₁ := 1) (by unfold odN; (repeat' split) <;> omega), by rw [coX_back hM hc]⟩
            · replace g8 : x = 41 := (nI_eq (a := x) (b := 41) (by omega) (by omega)).mp g8
              refine R_ifn 5 (c := (nI p) = 0) (t := 148) (f := 132) (L' := [some (.ref 64), some (.int (nI n)), some (.int (nI s)), some (.int (nI t)), some (.int (nI p)), some (.int (nI cold)), some (.int (nI x)), some (.int 1)]) (st' := []) (h' := mk (up M' 62 0 (nI cold)) T) (fun _ => rfl) (fun g11 => ?_) (fun g11 => ?_)
              · replace g11 : ¬ p = 0 := fun q => g11 ((nI_eq (a := p) (b := 0) (by omega) (by omega)).mpr q)
                refine R_ret 5 (pcr := 159) (v := some (.int 1)) (h' := mk (up M' 62 0 (nI cold)) T) (fun _ => rfl) ?_
                exact ⟨congrArg (fun z => some (Value.int (nI z))) (a₁ := 1) (by unfold odN; (repeat' split) <;> omega), by rw [coX_back hM hc]⟩
              · replace g11 : p = 0 := (nI_eq (a := p) (b := 0) (by omega) (by omega)).mp g11
                refine R_ifn 3 (c := (nI x) = 41) (t := 143) (f := 139) (L' := [some (.ref 64), some (.int (nI n)), some (.int (nI s)), some (.int (nI t)), some (.int (nI p)), some (.int (nI cold)), some (.int (nI x)), some (.int 1)]) (st' := []) (h' := mk (up M' 62 0 (nI cold)) T) (fun _ => rfl) (fun g12 => ?_) (fun g12 => ?_)
                · replace g12 : ¬ x = 41 := fun q => g12 ((nI_eq (a := x) (b := 41) (by omega) (by omega)).mpr q)
                  refine R_ret 3 (pcr := 159) (v := some (.int (nI x))) (h' := mk (up M' 62 0 (nI cold)) T) (fun _ => rfl) ?_
                  exact ⟨congrArg (fun z => some (Value.int (nI z))) (a₁ := x) (by unfold odN; (repeat' split) <;> omega), by rw [coX_back hM hc]⟩
                · replace g12 : x = 41 := (nI_eq (a := x) (b := 41) (by omega) (by omega)).mp g12
                  refine R_ret 3 (pcr := 159) (v := some (.int 1)) (h' := mk (up M' 62 0 (nI cold)) T) (fun _ => rfl) ?_
                  exact ⟨congrArg (fun z => some (Value.int (nI z))) (a₁ := 1) (by unfold odN; (repeat' split) <;> omega), by rw [coX_back hM hc]⟩
        · exact absurd (nI_in2 (a := 0) (b := 1) (by omega) (by omega) (by omega)) g4
      · exact absurd (nI_in2 (a := 0) (b := 23) (by omega) (by omega) (by omega)) g3
    · exact absurd (nI_in2 (a := 0) (b := 99) (by omega) (by omega) (by omega)) g2
  · exact absurd (⟨nI_pos' (by omega), nI_lt hn (by omega)⟩) g1
set_option maxHeartbeats 4000000 in
theorem op_odds {ro : xRO} {M : xM} {T : Nat} (h : Rel M) {i v w u : Int32} : OpOK ro M_X7_odds M_X8_odds [some (.ref 3), some (.int i), some (.int v), some (.int w), some (.int u), none, none, none] [some (.ref 64), some (.int i), some (.int v), some (.int w), some (.int u), none, none, none] M T := by
  obtain ⟨P, H, h8, h6, pm, hm, px, hx, a, b1, b2, b3, b4, c2, c3, c4, c5⟩ := rel_all h
  obtain ⟨cold, cc1, cc2⟩ := c2.2.2.1
  obtain ⟨lamp, ll1, ll2⟩ := c2.2.2.2.2.1
  rcases nI_cases i P (by omega) with ⟨n, hn, rfl⟩ | hi
  · rcases of_in v (b := 99) (by omega) with ⟨s, hs, rfl⟩ | hv
    · rcases of_in w (b := 23) (by omega) with ⟨t, ht, rfl⟩ | hv
      · rcases of_in u (b := 1) (by omega) with ⟨p, hp, rfl⟩ | hv
        · obtain ⟨kd, m, fc, cl, hF, hG⟩ := pane_all b1 c3 (n := n) (by omega)
          exact OpOK.of (fun d => x_odds_i px h8 hn hF (a.2.2.2.2.2.1.trans ll2) ll1 hs ht hp rfl (cnt_le _ _ _)) (fun d => m_odds_i pm h8 hn hG cc2 ll2 cc1 ll1 h.2.2.2.2.2 hs ht hp rfl (cnt_le _ _ _)) rfl h
        · exact OpOK.of (fun d => x_odds_b3 px h8 hn hs ht hv) (fun d => m_odds_b3 (M := up M 60 1 (M 60 1 + 1)) pm h8 hn hs ht hv) rfl (h.err 1 (by omega))
      · exact OpOK.of (fun d => x_odds_b2 px h8 hn hs hv) (fun d => m_odds_b2 (M := up M 60 1 (M 60 1 + 1)) pm h8 hn hs hv) rfl (h.err 1 (by omega))
    · exact OpOK.of (fun d => x_odds_b1 px h8 hn hv) (fun d => m_odds_b1 (M := up M 60 1 (M 60 1 + 1)) pm h8 hn hv) rfl (h.err 1 (by omega))
  · exact OpOK.of (fun d => x_odds_o px h8 hi) (fun d => m_odds_o (M := up M 60 1 (M 60 1 + 1)) pm h8 hi) rfl (h.err 1 (by omega))
