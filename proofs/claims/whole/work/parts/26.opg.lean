/-! OPERATION pane -/
set_option maxRecDepth 100000 in
set_option maxHeartbeats 4000000 in
theorem x_pane_b0 {ro : xRO} {d : Nat} {M : xM} {T : Nat} {H : Nat} (hH : M 1 7 = nI H) (h6 : H ≤ 6)  {km : Int32} {fc : Int32} {fl : Int32} {he : Int32} {wo : Int32} (hv : ¬ (0 ≤ km ∧ km ≤ 69)) : Rn ro (d + 90) M_X7_pane 0 [some (.ref 3), some (.int km), some (.int fc), some (.int fl), some (.int he), some (.int wo), none] [] (mk M T) (fun r h => r = some (.int (-1000000001)) ∧ h = mk (up M 60 1 (M 60 1 + 1)) T) := by
  refine R_go 3 (pc' := 4) (L' := [some (.ref 3), some (.int km), some (.int fc), some (.int fl), some (.int he), some (.int wo), none]) (st' := [.int 69, .int 0, .int km]) (h' := mk M T) (fun _ => rfl) ?_
  refine R_call2 (i := .invokestatic 78) (kd := 1) (y := M_X7_within) (as := [.int km, .int 0, .int 69]) (r := []) (L0 := [some (.int km), some (.int 0), some (.int 69)]) (v1 := some (.int 1)) (v2 := some (.int 0)) (h1' := mk M T) (h2' := mk M T) (pc' := 7) (st1 := [.int 1]) (st2 := [.int 0]) rfl rfl rfl rfl rfl rfl (c_within) (fun g1 => ?_) (fun g1 => ?_)
  · exact absurd g1 (hv)
  · refine R_go 3 (pc' := 32) (L' := [some (.ref 3), some (.int km), some (.int fc), some (.int fl), some (.int he), some (.int wo), none]) (st' := [.int 1, .ref 3]) (h' := mk M T) (fun _ => rfl) ?_
    refine R_callD (i := .invokevirtual 75) (kd := 0) (y := M_X7_error) (as := [.ref 3, .int 1]) (r := []) (L0 := [some (.ref 3), some (.int 1)]) (v := some (.int (-1000000001))) (h' := mk (up M 60 1 (M 60 1 + 1)) T) (pc' := 35) (st' := [.int (-1000000001)]) rfl rfl rfl rfl rfl rfl (c_error_1) ?_
    refine R_ret 1 (pcr := 35) (v := some (.int (-1000000001))) (h' := mk (up M 60 1 (M 60 1 + 1)) T) (fun _ => rfl) ?_
    exact ⟨rfl, rfl⟩
set_option maxRecDepth 100000 in
set_option maxHeartbeats 4000000 in
theorem m_pane_b0 {ro : xRO} {d : Nat} {M : xM} {T : Nat} {H : Nat} (hH : M 62 7 = nI H) (h6 : H ≤ 6)  {km : Int32} {fc : Int32} {fl : Int32} {he : Int32} {wo : Int32} (hv : ¬ (0 ≤ km ∧ km ≤ 69)) : Rn ro (d + 90) M_X8_pane 0 [some (.ref 64), some (.int km), some (.int fc), some (.int fl), some (.int he), some (.int wo), none, none] [] (mk M T) (fun r h => r = some (.int (-1000000001)) ∧ h = mk (up M 64 1 (M 64 1 + 1)) T) := by
  refine R_go 1 (pc' := 1) (L' := [some (.ref 64), some (.int km), some (.int fc), some (.int fl), some (.int he), some (.int wo), none, none]) (st' := [.int km]) (h' := mk M T) (fun _ => rfl) ?_
  refine R_callD (i := .invokestatic 84) (kd := 1) (y := M_X8_isKm) (as := [.int km]) (r := []) (L0 := [some (.int km)]) (v := some (.int 0)) (h' := mk M T) (pc' := 4) (st' := [.int 0]) rfl rfl rfl rfl rfl rfl (m_isKm_b hv) ?_
  refine R_go 3 (pc' := 50) (L' := [some (.ref 64), some (.int km), some (.int fc), some (.int fl), some (.int he), some (.int wo), none, none]) (st' := [.int (-1000000001), .ref 64]) (h' := mk M T) (fun _ => rfl) ?_
  refine R_callD (i := .invokevirtual 81) (kd := 0) (y := M_X8_error) (as := [.ref 64, .int (-1000000001)]) (r := []) (L0 := [some (.ref 64), some (.int (-1000000001))]) (v := some (.int (-1000000001))) (h' := mk (up M 64 1 (M 64 1 + 1)) T) (pc' := 53) (st' := [.int (-1000000001)]) rfl rfl rfl rfl rfl rfl (m_error_1) ?_
  refine R_ret 1 (pcr := 53) (v := some (.int (-1000000001))) (h' := mk (up M 64 1 (M 64 1 + 1)) T) (fun _ => rfl) ?_
  exact ⟨rfl, rfl⟩
set_option maxRecDepth 100000 in
set_option maxHeartbeats 4000000 in
theorem x_pane_b1 {ro : xRO} {d : Nat} {M : xM} {T : Nat} {H : Nat} (hH : M 1 7 = nI H) (h6 : H ≤ 6) {k : Nat} (hk : k ≤ 69) {fc : Int32} {fl : Int32} {he : Int32} {wo : Int32} (hv : ¬ (0 ≤ fc ∧ fc ≤ 39)) : Rn ro (d + 90) M_X7_pane 0 [some (.ref 3), some (.int (nI k)), some (.int fc), some (.int fl), some (.int he), some (.int wo), none] [] (mk M T) (fun r h => r = some (.int (-1000000001)) ∧ h = mk (up M 60 1 (M 60 1 + 1)) T) := by
  refine R_go 3 (pc' := 4) (L' := [some (.ref 3), some (.int (nI k)), some (.int fc), some (.int fl), some (.int he), some (.int wo), none]) (st' := [.int 69, .int 0, .int (nI k)]) (h' := mk M T) (fun _ => rfl) ?_
  refine R_call2 (i := .invokestatic 78) (kd := 1) (y := M_X7_within) (as := [.int (nI k), .int 0, .int 69]) (r := []) (L0 := [some (.int (nI k)), some (.int 0), some (.int 69)]) (v1 := some (.int 1)) (v2 := some (.int 0)) (h1' := mk M T) (h2' := mk M T) (pc' := 7) (st1 := [.int 1]) (st2 := [.int 0]) rfl rfl rfl rfl rfl rfl (c_within) (fun g1 => ?_) (fun g1 => ?_)
  · refine R_go 4 (pc' := 14) (L' := [some (.ref 3), some (.int (nI k)), some (.int fc), some (.int fl), some (.int he), some (.int wo), none]) (st' := [.int 39, .int 0, .int fc]) (h' := mk M T) (fun _ => rfl) ?_
    refine R_call2 (i := .invokestatic 78) (kd := 1) (y := M_X7_within) (as := [.int fc, .int 0, .int 39]) (r := []) (L0 := [some (.int fc), some (.int 0), some (.int 39)]) (v1 := some (.int 1)) (v2 := some (.int 0)) (h1' := mk M T) (h2' := mk M T) (pc' := 17) (st1 := [.int 1]) (st2 := [.int 0]) rfl rfl rfl rfl rfl rfl (c_within) (fun g2 => ?_) (fun g2 => ?_)
    · exact absurd g2 (hv)
    · refine R_go 3 (pc' := 32) (L' := [some (.ref 3), some (.int (nI k)), some (.int fc), some (.int fl), some (.int he), some (.int wo), none]) (st' := [.int 1, .ref 3]) (h' := mk M T) (fun _ => rfl) ?_
      refine R_callD (i := .invokevirtual 75) (kd := 0) (y := M_X7_error) (as := [.ref 3, .int 1]) (r := []) (L0 := [some (.ref 3), some (.int 1)]) (v := some (.int (-1000000001))) (h' := mk (up M 60 1 (M 60 1 + 1)) T) (pc' := 35) (st' := [.int (-1000000001)]) rfl rfl rfl rfl rfl rfl (c_error_1) ?_
      refine R_ret 1 (pcr := 35) (v := some (.int (-1000000001))) (h' := mk (up M 60 1 (M 60 1 + 1)) T) (fun _ => rfl) ?_
      exact ⟨rfl, rfl⟩
  · exact absurd (nI_in2 (a := 0) (b := 69) (by omega) hk (by omega)) g1
set_option maxRecDepth 100000 in
set_option maxHeartbeats 4000000 in
theorem m_pane_b1 {ro : xRO} {d : Nat} {M : xM} {T : Nat} {H : Nat} (hH : M 62 7 = nI H) (h6 : H ≤ 6) {k : Nat} (hk : k ≤ 69) {fc : Int32} {fl : Int32} {he : Int32} {wo : Int32} (hv : ¬ (0 ≤ fc ∧ fc ≤ 39)) : Rn ro (d + 90) M_X8_pane 0 [some (.ref 64), some (.int (nI k)), some (.int fc), some (.int fl), some (.int he), some (.int wo), none, none] [] (mk M T) (fun r h => r = some (.int (-1000000001)) ∧ h = mk (up M 64 1 (M 64 1 + 1)) T) := by
  refine R_go 1 (pc' := 1) (L' := [some (.ref 64), some (.int (nI k)), some (.int fc), some (.int fl), some (.int he), some (.int wo), none, none]) (st' := [.int (nI k)]) (h' := mk M T) (fun _ => rfl) ?_
  refine R_callD (i := .invokestatic 84) (kd := 1) (y := M_X8_isKm) (as := [.int (nI k)]) (r := []) (L0 := [some (.int (nI k))]) (v := some (.int 1)) (h' := mk M T) (pc' := 4) (st' := [.int 1]) rfl rfl rfl rfl rfl rfl (m_isKm_i hk) ?_
  refine R_go 4 (pc' := 11) (L' := [some (.ref 64), some (.int (nI k)), some (.int fc), some (.int fl), some (.int he), some (.int wo), none, none]) (st' := [.int 39, .int 0, .int fc]) (h' := mk M T) (fun _ => rfl) ?_
  refine R_call2 (i := .invokestatic 53) (kd := 1) (y := M_X8_in) (as := [.int fc, .int 0, .int 39]) (r := []) (L0 := [some (.int fc), some (.int 0), some (.int 39)]) (v1 := some (.int 1)) (v2 := some (.int 0)) (h1' := mk M T) (h2' := mk M T) (pc' := 14) (st1 := [.int 1]) (st2 := [.int 0]) rfl rfl rfl rfl rfl rfl (m_in) (fun g1 => ?_) (fun g1 => ?_)
  · exact absurd g1 (hv)
  · refine R_go 3 (pc' := 50) (L' := [some (.ref 64), some (.int (nI k)), some (.int fc), some (.int fl), some (.int he), some (.int wo), none, none]) (st' := [.int (-1000000001), .ref 64]) (h' := mk M T) (fun _ => rfl) ?_
    refine R_callD (i := .invokevirtual 81) (kd := 0) (y := M_X8_error) (as := [.ref 64, .int (-1000000001)]) (r := []) (L0 := [some (.ref 64), some (.int (-1000000001))]) (v := some (.int (-1000000001))) (h' := mk (up M 64 1 (M 64 1 + 1)) T) (pc' := 53) (st' := [.int (-1000000001)]) rfl rfl rfl rfl rfl rfl (m_error_1) ?_
    refine R_ret 1 (pcr := 53) (v := some (.int (-1000000001))) (h' := mk (up M 64 1 (M 64 1 + 1)) T) (fun _ => rfl) ?_
    exact ⟨rfl, rfl⟩
set_option maxRecDepth 100000 in
set_option maxHeartbeats 4000000 in
theorem x_pane_b2 {ro : xRO} {d : Nat} {M : xM} {T : Nat} {H : Nat} (hH : M 1 7 = nI H) (h6 : H ≤ 6) {k : Nat} (hk : k ≤ 69) {f : Nat} (hf : f ≤ 39) {fl : Int32} {he : Int32} {wo : Int32} (hv : ¬ (0 ≤ fl ∧ fl ≤ 9)) : Rn ro (d + 90) M_X7_pane 0 [some (.ref 3), some (.int (nI k)), some (.int (nI f)), some (.int fl), some (.int he), some (.int wo), none] [] (mk M T) (fun r h => r = some (.int (-1000000001)) ∧ h = mk (up M 60 1 (M 60 1 + 1)) T) := by
  refine R_go 3 (pc' := 4) (L' := [some (.ref 3), some (.int (nI k)), some (.int (nI f)), some (.int fl), some (.int he), some (.int wo), none]) (st' := [.int 69, .int 0, .int (nI k)]) (h' := mk M T) (fun _ => rfl) ?_
  refine R_call2 (i := .invokestatic 78) (kd := 1) (y := M_X7_within) (as := [.int (nI k), .int 0, .int 69]) (r := []) (L0 := [some (.int (nI k)), some (.int 0), some (.int 69)]) (v1 := some (.int 1)) (v2 := some (.int 0)) (h1' := mk M T) (h2' := mk M T) (pc' := 7) (st1 := [.int 1]) (st2 := [.int 0]) rfl rfl rfl rfl rfl rfl (c_within) (fun g1 => ?_) (fun g1 => ?_)
  · refine R_go 4 (pc' := 14) (L' := [some (.ref 3), some (.int (nI k)), some (.int (nI f)), some (.int fl), some (.int he), some (.int wo), none]) (st' := [.int 39, .int 0, .int (nI f)]) (h' := mk M T) (fun _ => rfl) ?_
    refine R_call2 (i := .invokestatic 78) (kd := 1) (y := M_X7_within) (as := [.int (nI f), .int 0, .int 39]) (r := []) (L0 := [some (.int (nI f)), some (.int 0), some (.int 39)]) (v1 := some (.int 1)) (v2 := some (.int 0)) (h1' := mk M T) (h2' := mk M T) (pc' := 17) (st1 := [.int 1]) (st2 := [.int 0]) rfl rfl rfl rfl rfl rfl (c_within) (fun g2 => ?_) (fun g2 => ?_)
    · refine R_go 4 (pc' := 24) (L' := [some (.ref 3), some (.int (nI k)), some (.int (nI f)), some (.int fl), some (.int he), some (.int wo), none]) (st' := [.int 9, .int 0, .int fl]) (h' := mk M T) (fun _ => rfl) ?_
      refine R_call2 (i := .invokestatic 78) (kd := 1) (y := M_X7_within) (as := [.int fl, .int 0, .int 9]) (r := []) (L0 := [some (.int fl), some (.int 0), some (.int 9)]) (v1 := some (.int 1)) (v2 := some (.int 0)) (h1' := mk M T) (h2' := mk M T) (pc' := 27) (st1 := [.int 1]) (st2 := [.int 0]) rfl rfl rfl rfl rfl rfl (c_within) (fun g3 => ?_) (fun g3 => ?_)
      · exact absurd g3 (hv)
      · refine R_go 3 (pc' := 32) (L' := [some (.ref 3), some (.int (nI k)), some (.int (nI f)), some (.int fl), some (.int he), some (.int wo), none]) (st' := [.int 1, .ref 3]) (h' := mk M T) (fun _ => rfl) ?_
        refine R_callD (i := .invokevirtual 75) (kd := 0) (y := M_X7_error) (as := [.ref 3, .int 1]) (r := []) (L0 := [some (.ref 3), some (.int 1)]) (v := some (.int (-1000000001))) (h' := mk (up M 60 1 (M 60 1 + 1)) T) (pc' := 35) (st' := [.int (-1000000001)]) rfl rfl rfl rfl rfl rfl (c_error_1) ?_
        refine R_ret 1 (pcr := 35) (v := some (.int (-1000000001))) (h' := mk (up M 60 1 (M 60 1 + 1)) T) (fun _ => rfl) ?_
        exact ⟨rfl, rfl⟩
    · exact absurd (nI_in2 (a := 0) (b := 39) (by omega) hf (by omega)) g2
  · exact absurd (nI_in2 (a := 0) (b := 69) (by omega) hk (by omega)) g1
set_option maxRecDepth 100000 in
set_option maxHeartbeats 4000000 in
theorem m_pane_b2 {ro : xRO} {d : Nat} {M : xM} {T : Nat} {H : Nat} (hH : M 62 7 = nI H) (h6 : H ≤ 6) {k : Nat} (hk : k ≤ 69) {f : Nat} (hf : f ≤ 39) {fl : Int32} {he : Int32} {wo : Int32} (hv : ¬ (0 ≤ fl ∧ fl ≤ 9)) : Rn ro (d + 90) M_X8_pane 0 [some (.ref 64), some (.int (nI k)), some (.int (nI f)), some (.int fl), some (.int he), some (.int wo), none, none] [] (mk M T) (fun r h => r = some (.int (-1000000001)) ∧ h = mk (up M 64 1 (M 64 1 + 1)) T) := by
  refine R_go 1 (pc' := 1) (L' := [some (.ref 64), some (.int (nI k)), some (.int (nI f)), some (.int fl), some (.int he), some (.int wo), none, none]) (st' := [.int (nI k)]) (h' := mk M T) (fun _ => rfl) ?_
  refine R_callD (i := .invokestatic 84) (kd := 1) (y := M_X8_isKm) (as := [.int (nI k)]) (r := []) (L0 := [some (.int (nI k))]) (v := some (.int 1)) (h' := mk M T) (pc' := 4) (st' := [.int 1]) rfl rfl rfl rfl rfl rfl (m_isKm_i hk) ?_
  refine R_go 4 (pc' := 11) (L' := [some (.ref 64), some (.int (nI k)), some (.int (nI f)), some (.int fl), some (.int he), some (.int wo), none, none]) (st' := [.int 39, .int 0, .int (nI f)]) (h' := mk M T) (fun _ => rfl) ?_
  refine R_call2 (i := .invokestatic 53) (kd := 1) (y := M_X8_in) (as := [.int (nI f), .int 0, .int 39]) (r := []) (L0 := [some (.int (nI f)), some (.int 0), some (.int 39)]) (v1 := some (.int 1)) (v2 := some (.int 0)) (h1' := mk M T) (h2' := mk M T) (pc' := 14) (st1 := [.int 1]) (st2 := [.int 0]) rfl rfl rfl rfl rfl rfl (m_in) (fun g1 => ?_) (fun g1 => ?_)
  · refine R_go 4 (pc' := 21) (L' := [some (.ref 64), some (.int (nI k)), some (.int (nI f)), some (.int fl), some (.int he), some (.int wo), none, none]) (st' := [.int 9, .int 0, .int fl]) (h' := mk M T) (fun _ => rfl) ?_
    refine R_call2 (i := .invokestatic 53) (kd := 1) (y := M_X8_in) (as := [.int fl, .int 0, .int 9]) (r := []) (L0 := [some (.int fl), some (.int 0), some (.int 9)]) (v1 := some (.int 1)) (v2 := some (.int 0)) (h1' := mk M T) (h2' := mk M T) (pc' := 24) (st1 := [.int 1]) (st2 := [.int 0]) rfl rfl rfl rfl rfl rfl (m_in) (fun g2 => ?_) (fun g2 => ?_)
    · exact absurd g2 (hv)
    · refine R_go 3 (pc' := 50) (L' := [some (.ref 64), some (.int (nI k)), some (.int (nI f)), some (.int fl), some (.int he), some (.int wo), none, none]) (st' := [.int (-1000000001), .ref 64]) (h' := mk M T) (fun _ => rfl) ?_
      refine R_callD (i := .invokevirtual 81) (kd := 0) (y := M_X8_error) (as := [.ref 64, .int (-1000000001)]) (r := []) (L0 := [some (.ref 64), some (.int (-1000000001))]) (v := some (.int (-1000000001))) (h' := mk (up M 64 1 (M 64 1 + 1)) T) (pc' := 53) (st' := [.int (-1000000001)]) rfl rfl rfl rfl rfl rfl (m_error_1) ?_
      refine R_ret 1 (pcr := 53) (v := some (.int (-1000000001))) (h' := mk (up M 64 1 (M 64 1 + 1)) T) (fun _ => rfl) ?_
      exact ⟨rfl, rfl⟩
  · exact absurd (nI_in2 (a := 0) (b := 39) (by omega) hf (by omega)) g1
set_option maxRecDepth 100000 in
set_option maxHeartbeats 4000000 in
theorem x_pane_b3 {ro : xRO} {d : Nat} {M : xM} {T : Nat} {H : Nat} (hH : M 1 7 = nI H) (h6 : H ≤ 6) {k : Nat} (hk : k ≤ 69) {f : Nat} (hf : f ≤ 39) {l : Nat} (hl : l ≤ 9) {he : Int32} {wo : Int32} (hv : ¬ (0 ≤ he ∧ he < nI H)) : Rn ro (d + 90) M_X7_pane 0 [some (.ref 3), some (.int (nI k)), some (.int (nI f)), some (.int (nI l)), some (.int he), some (.int wo), none] [] (mk M T) (fun r h => r = some (.int (-1000000001)) ∧ h = mk (up M 60 1 (M 60 1 + 1)) T) := by
  refine R_go 3 (pc' := 4) (L' := [some (.ref 3), some (.int (nI k)), some (.int (nI f)), some (.int (nI l)), some (.int he), some (.int wo), none]) (st' := [.int 69, .int 0, .int (nI k)]) (h' := mk M T) (fun _ => rfl) ?_
  refine R_call2 (i := .invokestatic 78) (kd := 1) (y := M_X7_within) (as := [.int (nI k), .int 0, .int 69]) (r := []) (L0 := [some (.int (nI k)), some (.int 0), some (.int 69)]) (v1 := some (.int 1)) (v2 := some (.int 0)) (h1' := mk M T) (h2' := mk M T) (pc' := 7) (st1 := [.int 1]) (st2 := [.int 0]) rfl rfl rfl rfl rfl rfl (c_within) (fun g1 => ?_) (fun g1 => ?_)
  · refine R_go 4 (pc' := 14) (L' := [some (.ref 3), some (.int (nI k)), some (.int (nI f)), some (.int (nI l)), some (.int he), some (.int wo), none]) (st' := [.int 39, .int 0, .int (nI f)]) (h' := mk M T) (fun _ => rfl) ?_
    refine R_call2 (i := .invokestatic 78) (kd := 1) (y := M_X7_within) (as := [.int (nI f), .int 0, .int 39]) (r := []) (L0 := [some (.int (nI f)), some (.int 0), some (.int 39)]) (v1 := some (.int 1)) (v2 := some (.int 0)) (h1' := mk M T) (h2' := mk M T) (pc' := 17) (st1 := [.int 1]) (st2 := [.int 0]) rfl rfl rfl rfl rfl rfl (c_within) (fun g2 => ?_) (fun g2 => ?_)
    · refine R_go 4 (pc' := 24) (L' := [some (.ref 3), some (.int (nI k)), some (.int (nI f)), some (.int (nI l)), some (.int he), some (.int wo), none]) (st' := [.int 9, .int 0, .int (nI l)]) (h' := mk M T) (fun _ => rfl) ?_
      refine R_call2 (i := .invokestatic 78) (kd := 1) (y := M_X7_within) (as := [.int (nI l), .int 0, .int 9]) (r := []) (L0 := [some (.int (nI l)), some (.int 0), some (.int 9)]) (v1 := some (.int 1)) (v2 := some (.int 0)) (h1' := mk M T) (h2' := mk M T) (pc' := 27) (st1 := [.int 1]) (st2 := [.int 0]) rfl rfl rfl rfl rfl rfl (c_within) (fun g3 => ?_) (fun g3 => ?_)
      · refine R_go 4 (pc' := 42) (L' := [some (.ref 3), some (.int (nI k)), some (.int (nI f)), some (.int (nI l)), some (.int he), some (.int wo), none]) (st' := [.int he, .ref 4]) (h' := mk M T) (fun _ => rfl) ?_
        refine R_call2 (i := .invokevirtual 82) (kd := 0) (y := M_X0_hasHeir) (as := [.ref 4, .int he]) (r := []) (L0 := [some (.ref 4), some (.int he)]) (v1 := some (.int 1)) (v2 := some (.int 0)) (h1' := mk M T) (h2' := mk M T) (pc' := 45) (st1 := [.int 1]) (st2 := [.int 0]) rfl rfl rfl rfl rfl rfl (c_hasHeir hH h6) (fun g4 => ?_) (fun g4 => ?_)
        · exact absurd g4 (hv)
        · refine R_go 3 (pc' := 61) (L' := [some (.ref 3), some (.int (nI k)), some (.int (nI f)), some (.int (nI l)), some (.int he), some (.int wo), none]) (st' := [.int 1, .ref 3]) (h' := mk M T) (fun _ => rfl) ?_
          refine R_callD (i := .invokevirtual 75) (kd := 0) (y := M_X7_error) (as := [.ref 3, .int 1]) (r := []) (L0 := [some (.ref 3), some (.int 1)]) (v := some (.int (-1000000001))) (h' := mk (up M 60 1 (M 60 1 + 1)) T) (pc' := 64) (st' := [.int (-1000000001)]) rfl rfl rfl rfl rfl rfl (c_error_1) ?_
          refine R_ret 1 (pcr := 64) (v := some (.int (-1000000001))) (h' := mk (up M 60 1 (M 60 1 + 1)) T) (fun _ => rfl) ?_
          exact ⟨rfl, rfl⟩
      · exact absurd (nI_in2 (a := 0) (b := 9) (by omega) hl (by omega)) g3
    · exact absurd (nI_in2 (a := 0) (b := 39) (by omega) hf (by omega)) g2
  · exact absurd (nI_in2 (a := 0) (b := 69) (by omega) hk (by omega)) g1
set_option maxRecDepth 100000 in
set_option maxHeartbeats 4000000 in
theorem m_pane_b3 {ro : xRO} {d : Nat} {M : xM} {T : Nat} {H : Nat} (hH : M 62 7 = nI H) (h6 : H ≤ 6) {k : Nat} (hk : k ≤ 69) {f : Nat} (hf : f ≤ 39) {l : Nat} (hl : l ≤ 9) {he : Int32} {wo : Int32} (hv : ¬ (0 ≤ he ∧ he < nI H)) : Rn ro (d + 90) M_X8_pane 0 [some (.ref 64), some (.int (nI k)), some (.int (nI f)), some (.int (nI l)), some (.int he), some (.int wo), none, none] [] (mk M T) (fun r h => r = some (.int (-1000000001)) ∧ h = mk (up M 64 1 (M 64 1 + 1)) T) := by
  refine R_go 1 (pc' := 1) (L' := [some (.ref 64), some (.int (nI k)), some (.int (nI f)), some (.int (nI l)), some (.int he), some (.int wo), none, none]) (st' := [.int (nI k)]) (h' := mk M T) (fun _ => rfl) ?_
  refine R_callD (i := .invokestatic 84) (kd := 1) (y := M_X8_isKm) (as := [.int (nI k)]) (r := []) (L0 := [some (.int (nI k))]) (v := some (.int 1)) (h' := mk M T) (pc' := 4) (st' := [.int 1]) rfl rfl rfl rfl rfl rfl (m_isKm_i hk) ?_
  refine R_go 4 (pc' := 11) (L' := [some (.ref 64), some (.int (nI k)), some (.int (nI f)), some (.int (nI l)), some (.int he), some (.int wo), none, none]) (st' := [.int 39, .int 0, .int (nI f)]) (h' := mk M T) (fun _ => rfl) ?_
  refine R_call2 (i := .invokestatic 53) (kd := 1) (y := M_X8_in) (as := [.int (nI f), .int 0, .int 39]) (r := []) (L0 := [some (.int (nI f)), some (.int 0), some (.int 39)]) (v1 := some (.int 1)) (v2 := some (.int 0)) (h1' := mk M T) (h2' := mk M T) (pc' := 14) (st1 := [.int 1]) (st2 := [.int 0]) rfl rfl rfl rfl rfl rfl (m_in) (fun g1 => ?_) (fun g1 => ?_)
  · refine R_go 4 (pc' := 21) (L' := [some (.ref 64), some (.int (nI k)), some (.int (nI f)), some (.int (nI l)), some (.int he), some (.int wo), none, none]) (st' := [.int 9, .int 0, .int (nI l)]) (h' := mk M T) (fun _ => rfl) ?_
    refine R_call2 (i := .invokestatic 53) (kd := 1) (y := M_X8_in) (as := [.int (nI l), .int 0, .int 9]) (r := []) (L0 := [some (.int (nI l)), some (.int 0), some (.int 9)]) (v1 := some (.int 1)) (v2 := some (.int 0)) (h1' := mk M T) (h2' := mk M T) (pc' := 24) (st1 := [.int 1]) (st2 := [.int 0]) rfl rfl rfl rfl rfl rfl (m_in) (fun g2 => ?_) (fun g2 => ?_)
    · refine R_go 3 (pc' := 30) (L' := [some (.ref 64), some (.int (nI k)), some (.int (nI f)), some (.int (nI l)), some (.int he), some (.int wo), none, none]) (st' := [.int he, .ref 64]) (h' := mk M T) (fun _ => rfl) ?_
      refine R_call2 (i := .invokevirtual 88) (kd := 0) (y := M_X8_isHeir) (as := [.ref 64, .int he]) (r := []) (L0 := [some (.ref 64), some (.int he)]) (v1 := some (.int 1)) (v2 := some (.int 0)) (h1' := mk M T) (h2' := mk M T) (pc' := 33) (st1 := [.int 1]) (st2 := [.int 0]) rfl rfl rfl rfl rfl rfl (m_isHeir hH h6) (fun g3 => ?_) (fun g3 => ?_)
      · exact absurd g3 (hv)
      · refine R_go 3 (pc' := 50) (L' := [some (.ref 64), some (.int (nI k)), some (.int (nI f)), some (.int (nI l)), some (.int he), some (.int wo), none, none]) (st' := [.int (-1000000001), .ref 64]) (h' := mk M T) (fun _ => rfl) ?_
        refine R_callD (i := .invokevirtual 81) (kd := 0) (y := M_X8_error) (as := [.ref 64, .int (-1000000001)]) (r := []) (L0 := [some (.ref 64), some (.int (-1000000001))]) (v := some (.int (-1000000001))) (h' := mk (up M 64 1 (M 64 1 + 1)) T) (pc' := 53) (st' := [.int (-1000000001)]) rfl rfl rfl rfl rfl rfl (m_error_1) ?_
        refine R_ret 1 (pcr := 53) (v := some (.int (-1000000001))) (h' := mk (up M 64 1 (M 64 1 + 1)) T) (fun _ => rfl) ?_
        exact ⟨rfl, rfl⟩
    · exact absurd (nI_in2 (a := 0) (b := 9) (by omega) hl (by omega)) g2
  · exact absurd (nI_in2 (a := 0) (b := 39) (by omega) hf (by omega)) g1
set_option maxRecDepth 100000 in
set_option maxHeartbeats 4000000 in
theorem x_pane_b4 {ro : xRO} {d : Nat} {M : xM} {T : Nat} {H : Nat} (hH : M 1 7 = nI H) (h6 : H ≤ 6) {k : Nat} (hk : k ≤ 69) {f : Nat} (hf : f ≤ 39) {l : Nat} (hl : l ≤ 9) {e : Nat} (he : e < H) {wo : Int32} (hv : ¬ (0 ≤ wo ∧ wo ≤ 99)) : Rn ro (d + 90) M_X7_pane 0 [some (.ref 3), some (.int (nI k)), some (.int (nI f)), some (.int (nI l)), some (.int (nI e)), some (.int wo), none] [] (mk M T) (fun r h => r = some (.int (-1000000001)) ∧ h = mk (up M 60 1 (M 60 1 + 1)) T) := by
  refine R_go 3 (pc' := 4) (L' := [some (.ref 3), some (.int (nI k)), some (.int (nI f)), some (.int (nI l)), some (.int (nI e)), some (.int wo), none]) (st' := [.int 69, .int 0, .int (nI k)]) (h' := mk M T) (fun _ => rfl) ?_
  refine R_call2 (i := .invokestatic 78) (kd := 1) (y := M_X7_within) (as := [.int (nI k), .int 0, .int 69]) (r := []) (L0 := [some (.int (nI k)), some (.int 0), some (.int 69)]) (v1 := some (.int 1)) (v2 := some (.int 0)) (h1' := mk M T) (h2' := mk M T) (pc' := 7) (st1 := [.int 1]) (st2 := [.int 0]) rfl rfl rfl rfl rfl rfl (c_within) (fun g1 => ?_) (fun g1 => ?_)
  · refine R_go 4 (pc' := 14) (L' := [some (.ref 3), some (.int (nI k)), some (.int (nI f)), some (.int (nI l)), some (.int (nI e)), some (.int wo), none]) (st' := [.int 39, .int 0, .int (nI f)]) (h' := mk M T) (fun _ => rfl) ?_
    refine R_call2 (i := .invokestatic 78) (kd := 1) (y := M_X7_within) (as := [.int (nI f), .int 0, .int 39]) (r := []) (L0 := [some (.int (nI f)), some (.int 0), some (.int 39)]) (v1 := some (.int 1)) (v2 := some (.int 0)) (h1' := mk M T) (h2' := mk M T) (pc' := 17) (st1 := [.int 1]) (st2 := [.int 0]) rfl rfl rfl rfl rfl rfl (c_within) (fun g2 => ?_) (fun g2 => ?_)
    · refine R_go 4 (pc' := 24) (L' := [some (.ref 3), some (.int (nI k)), some (.int (nI f)), some (.int (nI l)), some (.int (nI e)), some (.int wo), none]) (st' := [.int 9, .int 0, .int (nI l)]) (h' := mk M T) (fun _ => rfl) ?_
      refine R_call2 (i := .invokestatic 78) (kd := 1) (y := M_X7_within) (as := [.int (nI l), .int 0, .int 9]) (r := []) (L0 := [some (.int (nI l)), some (.int 0), some (.int 9)]) (v1 := some (.int 1)) (v2 := some (.int 0)) (h1' := mk M T) (h2' := mk M T) (pc' := 27) (st1 := [.int 1]) (st2 := [.int 0]) rfl rfl rfl rfl rfl rfl (c_within) (fun g3 => ?_) (fun g3 => ?_)
      · refine R_go 4 (pc' := 42) (L' := [some (.ref 3), some (.int (nI k)), some (.int (nI f)), some (.int (nI l)), some (.int (nI e)), some (.int wo), none]) (st' := [.int (nI e), .ref 4]) (h' := mk M T) (fun _ => rfl) ?_
        refine R_call2 (i := .invokevirtual 82) (kd := 0) (y := M_X0_hasHeir) (as := [.ref 4, .int (nI e)]) (r := []) (L0 := [some (.ref 4), some (.int (nI e))]) (v1 := some (.int 1)) (v2 := some (.int 0)) (h1' := mk M T) (h2' := mk M T) (pc' := 45) (st1 := [.int 1]) (st2 := [.int 0]) rfl rfl rfl rfl rfl rfl (c_hasHeir hH h6) (fun g4 => ?_) (fun g4 => ?_)
        · refine R_go 4 (pc' := 53) (L' := [some (.ref 3), some (.int (nI k)), some (.int (nI f)), some (.int (nI l)), some (.int (nI e)), some (.int wo), none]) (st' := [.int 99, .int 0, .int wo]) (h' := mk M T) (fun _ => rfl) ?_
          refine R_call2 (i := .invokestatic 78) (kd := 1) (y := M_X7_within) (as := [.int wo, .int 0, .int 99]) (r := []) (L0 := [some (.int wo), some (.int 0), some (.int 99)]) (v1 := some (.int 1)) (v2 := some (.int 0)) (h1' := mk M T) (h2' := mk M T) (pc' := 56) (st1 := [.int 1]) (st2 := [.int 0]) rfl rfl rfl rfl rfl rfl (c_within) (fun g5 => ?_) (fun g5 => ?_)
          · exact absurd g5 (hv)
          · refine R_go 3 (pc' := 61) (L' := [some (.ref 3), some (.int (nI k)), some (.int (nI f)), some (.int (nI l)), some (.int (nI e)), some (.int wo), none]) (st' := [.int 1, .ref 3]) (h' := mk M T) (fun _ => rfl) ?_
            refine R_callD (i := .invokevirtual 75) (kd := 0) (y := M_X7_error) (as := [.ref 3, .int 1]) (r := []) (L0 := [some (.ref 3), some (.int 1)]) (v := some (.int (-1000000001))) (h' := mk (up M 60 1 (M 60 1 + 1)) T) (pc' := 64) (st' := [.int (-1000000001)]) rfl rfl rfl rfl rfl rfl (c_error_1) ?_
            refine R_ret 1 (pcr := 64) (v := some (.int (-1000000001))) (h' := mk (up M 60 1 (M 60 1 + 1)) T) (fun _ => rfl) ?_
            exact ⟨rfl, rfl⟩
        · exact absurd (⟨nI_pos' (by omega), nI_lt he (by omega)⟩) g4
      · exact absurd (nI_in2 (a := 0) (b := 9) (by omega) hl (by omega)) g3
    · exact absurd (nI_in2 (a := 0) (b := 39) (by omega) hf (by omega)) g2
  · exact absurd (nI_in2 (a := 0) (b := 69) (by omega) hk (by omega)) g1
set_option maxRecDepth 100000 in
set_option maxHeartbeats 4000000 in
theorem m_pane_b4 {ro : xRO} {d : Nat} {M : xM} {T : Nat} {H : Nat} (hH : M 62 7 = nI H) (h6 : H ≤ 6) {k : Nat} (hk : k ≤ 69) {f : Nat} (hf : f ≤ 39) {l : Nat} (hl : l ≤ 9) {e : Nat} (he : e < H) {wo : Int32} (hv : ¬ (0 ≤ wo ∧ wo ≤ 99)) : Rn ro (d + 90) M_X8_pane 0 [some (.ref 64), some (.int (nI k)), some (.int (nI f)), some (.int (nI l)), some (.int (nI e)), some (.int wo), none, none] [] (mk M T) (fun r h => r = some (.int (-1000000001)) ∧ h = mk (up M 64 1 (M 64 1 + 1)) T) := by
  refine R_go 1 (pc' := 1) (L' := [some (.ref 64), some (.int (nI k)), some (.int (nI f)), some (.int (nI l)), some (.int (nI e)), some (.int wo), none, none]) (st' := [.int (nI k)]) (h' := mk M T) (fun _ => rfl) ?_
  refine R_callD (i := .invokestatic 84) (kd := 1) (y := M_X8_isKm) (as := [.int (nI k)]) (r := []) (L0 := [some (.int (nI k))]) (v := some (.int 1)) (h' := mk M T) (pc' := 4) (st' := [.int 1]) rfl rfl rfl rfl rfl rfl (m_isKm_i hk) ?_
  refine R_go 4 (pc' := 11) (L' := [some (.ref 64), some (.int (nI k)), some (.int (nI f)), some (.int (nI l)), some (.int (nI e)), some (.int wo), none, none]) (st' := [.int 39, .int 0, .int (nI f)]) (h' := mk M T) (fun _ => rfl) ?_
  refine R_call2 (i := .invokestatic 53) (kd := 1) (y := M_X8_in) (as := [.int (nI f), .int 0, .int 39]) (r := []) (L0 := [some (.int (nI f)), some (.int 0), some (.int 39)]) (v1 := some (.int 1)) (v2 := some (.int 0)) (h1' := mk M T) (h2' := mk M T) (pc' := 14) (st1 := [.int 1]) (st2 := [.int 0]) rfl rfl rfl rfl rfl rfl (m_in) (fun g1 => ?_) (fun g1 => ?_)
  · refine R_go 4 (pc' := 21) (L' := [some (.ref 64), some (.int (nI k)), some (.int (nI f)), some (.int (nI l)), some (.int (nI e)), some (.int wo), none, none]) (st' := [.int 9, .int 0, .int (nI l)]) (h' := mk M T) (fun _ => rfl) ?_
    refine R_call2 (i := .invokestatic 53) (kd := 1) (y := M_X8_in) (as := [.int (nI l), .int 0, .int 9]) (r := []) (L0 := [some (.int (nI l)), some (.int 0), some (.int 9)]) (v1 := some (.int 1)) (v2 := some (.int 0)) (h1' := mk M T) (h2' := mk M T) (pc' := 24) (st1 := [.int 1]) (st2 := [.int 0]) rfl rfl rfl rfl rfl rfl (m_in) (fun g2 => ?_) (fun g2 => ?_)
    · refine R_go 3 (pc' := 30) (L' := [some (.ref 64), some (.int (nI k)), some (.int (nI f)), some (.int (nI l)), some (.int (nI e)), some (.int wo), none, none]) (st' := [.int (nI e), .ref 64]) (h' := mk M T) (fun _ => rfl) ?_
      refine R_call2 (i := .invokevirtual 88) (kd := 0) (y := M_X8_isHeir) (as := [.ref 64, .int (nI e)]) (r := []) (L0 := [some (.ref 64), some (.int (nI e))]) (v1 := some (.int 1)) (v2 := some (.int 0)) (h1' := mk M T) (h2' := mk M T) (pc' := 33) (st1 := [.int 1]) (st2 := [.int 0]) rfl rfl rfl rfl rfl rfl (m_isHeir hH h6) (fun g3 => ?_) (fun g3 => ?_)
      · refine R_go 4 (pc' := 41) (L' := [some (.ref 64), some (.int (nI k)), some (.int (nI f)), some (.int (nI l)), some (.int (nI e)), some (.int wo), none, none]) (st' := [.int 99, .int 0, .int wo]) (h' := mk M T) (fun _ => rfl) ?_
        refine R_call2 (i := .invokestatic 53) (kd := 1) (y := M_X8_in) (as := [.int wo, .int 0, .int 99]) (r := []) (L0 := [some (.int wo), some (.int 0), some (.int 99)]) (v1 := some (.int 1)) (v2 := some (.int 0)) (h1' := mk M T) (h2' := mk M T) (pc' := 44) (st1 := [.int 1]) (st2 := [.int 0]) rfl rfl rfl rfl rfl rfl (m_in) (fun g4 => ?_) (fun g4 => ?_)
        · exact absurd g4 (hv)
        · refine R_go 3 (pc' := 50) (L' := [some (.ref 64), some (.int (nI k)), some (.int (nI f)), some (.int (nI l)), some (.int (nI e)), some (.int wo), none, none]) (st' := [.int (-1000000001), .ref 64]) (h' := mk M T) (fun _ => rfl) ?_
          refine R_callD (i := .invokevirtual 81) (kd := 0) (y := M_X8_error) (as := [.ref 64, .int (-1000000001)]) (r := []) (L0 := [some (.ref 64), some (.int (-1000000001))]) (v := some (.int (-1000000001))) (h' := mk (up M 64 1 (M 64 1 + 1)) T) (pc' := 53) (st' := [.int (-1000000001)]) rfl rfl rfl rfl rfl rfl (m_error_1) ?_
          refine R_ret 1 (pcr := 53) (v := some (.int (-1000000001))) (h' := mk (up M 64 1 (M 64 1 + 1)) T) (fun _ => rfl) ?_
          exact ⟨rfl, rfl⟩
      · exact absurd (⟨nI_pos' (by omega), nI_lt he (by omega)⟩) g3
    · exact absurd (nI_in2 (a := 0) (b := 9) (by omega) hl (by omega)) g2
  · exact absurd (nI_in2 (a := 0) (b := 39) (by omega) hf (by omega)) g1
set_option maxRecDepth 100000 in
set_option maxHeartbeats 4000000 in
theorem x_pane_full {ro : xRO} {d : Nat} {M : xM} {T : Nat} {H : Nat} (hH : M 1 7 = nI H) (h6 : H ≤ 6) (hP : M 1 6 = nI 8) {k : Nat} (hk : k ≤ 69) {f : Nat} (hf : f ≤ 39) {l : Nat} (hl : l ≤ 9) {e : Nat} (he : e < H) {w : Nat} (hw : w ≤ 99) : Rn ro (d + 90) M_X7_pane 0 [some (.ref 3), some (.int (nI k)), some (.int (nI f)), some (.int (nI l)), some (.int (nI e)), some (.int (nI w)), none] [] (mk M T) (fun r h => r = some (.int (-1000000004)) ∧ h = mk (up M 60 4 (M 60 4 + 1)) T) := by
  refine R_go 3 (pc' := 4) (L' := [some (.ref 3), some (.int (nI k)), some (.int (nI f)), some (.int (nI l)), some (.int (nI e)), some (.int (nI w)), none]) (st' := [.int 69, .int 0, .int (nI k)]) (h' := mk M T) (fun _ => rfl) ?_
  refine R_call2 (i := .invokestatic 78) (kd := 1) (y := M_X7_within) (as := [.int (nI k), .int 0, .int 69]) (r := []) (L0 := [some (.int (nI k)), some (.int 0), some (.int 69)]) (v1 := some (.int 1)) (v2 := some (.int 0)) (h1' := mk M T) (h2' := mk M T) (pc' := 7) (st1 := [.int 1]) (st2 := [.int 0]) rfl rfl rfl rfl rfl rfl (c_within) (fun g1 => ?_) (fun g1 => ?_)
  · refine R_go 4 (pc' := 14) (L' := [some (.ref 3), some (.int (nI k)), some (.int (nI f)), some (.int (nI l)), some (.int (nI e)), some (.int (nI w)), none]) (st' := [.int 39, .int 0, .int (nI f)]) (h' := mk M T) (fun _ => rfl) ?_
    refine R_call2 (i := .invokestatic 78) (kd := 1) (y := M_X7_within) (as := [.int (nI f), .int 0, .int 39]) (r := []) (L0 := [some (.int (nI f)), some (.int 0), some (.int 39)]) (v1 := some (.int 1)) (v2 := some (.int 0)) (h1' := mk M T) (h2' := mk M T) (pc' := 17) (st1 := [.int 1]) (st2 := [.int 0]) rfl rfl rfl rfl rfl rfl (c_within) (fun g2 => ?_) (fun g2 => ?_)
    · refine R_go 4 (pc' := 24) (L' := [some (.ref 3), some (.int (nI k)), some (.int (nI f)), some (.int (nI l)), some (.int (nI e)), some (.int (nI w)), none]) (st' := [.int 9, .int 0, .int (nI l)]) (h' := mk M T) (fun _ => rfl) ?_
      refine R_call2 (i := .invokestatic 78) (kd := 1) (y := M_X7_within) (as := [.int (nI l), .int 0, .int 9]) (r := []) (L0 := [some (.int (nI l)), some (.int 0), some (.int 9)]) (v1 := some (.int 1)) (v2 := some (.int 0)) (h1' := mk M T) (h2' := mk M T) (pc' := 27) (st1 := [.int 1]) (st2 := [.int 0]) rfl rfl rfl rfl rfl rfl (c_within) (fun g3 => ?_) (fun g3 => ?_)
      · refine R_go 4 (pc' := 42) (L' := [some (.ref 3), some (.int (nI k)), some (.int (nI f)), some (.int (nI l)), some (.int (nI e)), some (.int (nI w)), none]) (st' := [.int (nI e), .ref 4]) (h' := mk M T) (fun _ => rfl) ?_
        refine R_call2 (i := .invokevirtual 82) (kd := 0) (y := M_X0_hasHeir) (as := [.ref 4, .int (nI e)]) (r := []) (L0 := [some (.ref 4), some (.int (nI e))]) (v1 := some (.int 1)) (v2 := some (.int 0)) (h1' := mk M T) (h2' := mk M T) (pc' := 45) (st1 := [.int 1]) (st2 := [.int 0]) rfl rfl rfl rfl rfl rfl (c_hasHeir hH h6) (fun g4 => ?_) (fun g4 => ?_)
        · refine R_go 4 (pc' := 53) (L' := [some (.ref 3), some (.int (nI k)), some (.int (nI f)), some (.int (nI l)), some (.int (nI e)), some (.int (nI w)), none]) (st' := [.int 99, .int 0, .int (nI w)]) (h' := mk M T) (fun _ => rfl) ?_
          refine R_call2 (i := .invokestatic 78) (kd := 1) (y := M_X7_within) (as := [.int (nI w), .int 0, .int 99]) (r := []) (L0 := [some (.int (nI w)), some (.int 0), some (.int 99)]) (v1 := some (.int 1)) (v2 := some (.int 0)) (h1' := mk M T) (h2' := mk M T) (pc' := 56) (st1 := [.int 1]) (st2 := [.int 0]) rfl rfl rfl rfl rfl rfl (c_within) (fun g5 => ?_) (fun g5 => ?_)
          · refine R_go 3 (pc' := 69) (L' := [some (.ref 3), some (.int (nI k)), some (.int (nI f)), some (.int (nI l)), some (.int (nI e)), some (.int (nI w)), none]) (st' := [.ref 4]) (h' := mk M T) (fun _ => rfl) ?_
            refine R_callD (i := .invokevirtual 86) (kd := 0) (y := M_X0_addPane) (as := [.ref 4]) (r := []) (L0 := [some (.ref 4)]) (v := some (.null)) (h' := mk M T) (pc' := 72) (st' := [.null]) rfl rfl rfl rfl rfl rfl (c_addPane_full hP) ?_
            refine R_go 5 (pc' := 81) (L' := [some (.ref 3), some (.int (nI k)), some (.int (nI f)), some (.int (nI l)), some (.int (nI e)), some (.int (nI w)), some (.null)]) (st' := [.int 4, .ref 3]) (h' := mk M T) (fun _ => rfl) ?_
            refine R_callD (i := .invokevirtual 75) (kd := 0) (y := M_X7_error) (as := [.ref 3, .int 4]) (r := []) (L0 := [some (.ref 3), some (.int 4)]) (v := some (.int (-1000000004))) (h' := mk (up M 60 4 (M 60 4 + 1)) T) (pc' := 84) (st' := [.int (-1000000004)]) rfl rfl rfl rfl rfl rfl (c_error_4) ?_
            refine R_ret 1 (pcr := 84) (v := some (.int (-1000000004))) (h' := mk (up M 60 4 (M 60 4 + 1)) T) (fun _ => rfl) ?_
            exact ⟨rfl, rfl⟩
          · exact absurd (nI_in2 (a := 0) (b := 99) (by omega) hw (by omega)) g5
        · exact absurd (⟨nI_pos' (by omega), nI_lt he (by omega)⟩) g4
      · exact absurd (nI_in2 (a := 0) (b := 9) (by omega) hl (by omega)) g3
    · exact absurd (nI_in2 (a := 0) (b := 39) (by omega) hf (by omega)) g2
  · exact absurd (nI_in2 (a := 0) (b := 69) (by omega) hk (by omega)) g1
set_option maxRecDepth 100000 in
set_option maxHeartbeats 4000000 in
theorem m_pane_full {ro : xRO} {d : Nat} {M : xM} {T : Nat} {H : Nat} (hH : M 62 7 = nI H) (h6 : H ≤ 6) (hP : M 62 6 = nI 8) {k : Nat} (hk : k ≤ 69) {f : Nat} (hf : f ≤ 39) {l : Nat} (hl : l ≤ 9) {e : Nat} (he : e < H) {w : Nat} (hw : w ≤ 99) : Rn ro (d + 90) M_X8_pane 0 [some (.ref 64), some (.int (nI k)), some (.int (nI f)), some (.int (nI l)), some (.int (nI e)), some (.int (nI w)), none, none] [] (mk M T) (fun r h => r = some (.int (-1000000004)) ∧ h = mk (up M 64 4 (M 64 4 + 1)) T) := by
  refine R_go 1 (pc' := 1) (L' := [some (.ref 64), some (.int (nI k)), some (.int (nI f)), some (.int (nI l)), some (.int (nI e)), some (.int (nI w)), none, none]) (st' := [.int (nI k)]) (h' := mk M T) (fun _ => rfl) ?_
  refine R_callD (i := .invokestatic 84) (kd := 1) (y := M_X8_isKm) (as := [.int (nI k)]) (r := []) (L0 := [some (.int (nI k))]) (v := some (.int 1)) (h' := mk M T) (pc' := 4) (st' := [.int 1]) rfl rfl rfl rfl rfl rfl (m_isKm_i hk) ?_
  refine R_go 4 (pc' := 11) (L' := [some (.ref 64), some (.int (nI k)), some (.int (nI f)), some (.int (nI l)), some (.int (nI e)), some (.int (nI w)), none, none]) (st' := [.int 39, .int 0, .int (nI f)]) (h' := mk M T) (fun _ => rfl) ?_
  refine R_call2 (i := .invokestatic 53) (kd := 1) (y := M_X8_in) (as := [.int (nI f), .int 0, .int 39]) (r := []) (L0 := [some (.int (nI f)), some (.int 0), some (.int 39)]) (v1 := some (.int 1)) (v2 := some (.int 0)) (h1' := mk M T) (h2' := mk M T) (pc' := 14) (st1 := [.int 1]) (st2 := [.int 0]) rfl rfl rfl rfl rfl rfl (m_in) (fun g1 => ?_) (fun g1 => ?_)
  · refine R_go 4 (pc' := 21) (L' := [some (.ref 64), some (.int (nI k)), some (.int (nI f)), some (.int (nI l)), some (.int (nI e)), some (.int (nI w)), none, none]) (st' := [.int 9, .int 0, .int (nI l)]) (h' := mk M T) (fun _ => rfl) ?_
    refine R_call2 (i := .invokestatic 53) (kd := 1) (y := M_X8_in) (as := [.int (nI l), .int 0, .int 9]) (r := []) (L0 := [some (.int (nI l)), some (.int 0), some (.int 9)]) (v1 := some (.int 1)) (v2 := some (.int 0)) (h1' := mk M T) (h2' := mk M T) (pc' := 24) (st1 := [.int 1]) (st2 := [.int 0]) rfl rfl rfl rfl rfl rfl (m_in) (fun g2 => ?_) (fun g2 => ?_)
    · refine R_go 3 (pc' := 30) (L' := [some (.ref 64), some (.int (nI k)), some (.int (nI f)), some (.int (nI l)), some (.int (nI e)), some (.int (nI w)), none, none]) (st' := [.int (nI e), .ref 64]) (h' := mk M T) (fun _ => rfl) ?_
      refine R_call2 (i := .invokevirtual 88) (kd := 0) (y := M_X8_isHeir) (as := [.ref 64, .int (nI e)]) (r := []) (L0 := [some (.ref 64), some (.int (nI e))]) (v1 := some (.int 1)) (v2 := some (.int 0)) (h1' := mk M T) (h2' := mk M T) (pc' := 33) (st1 := [.int 1]) (st2 := [.int 0]) rfl rfl rfl rfl rfl rfl (m_isHeir hH h6) (fun g3 => ?_) (fun g3 => ?_)
      · refine R_go 4 (pc' := 41) (L' := [some (.ref 64), some (.int (nI k)), some (.int (nI f)), some (.int (nI l)), some (.int (nI e)), some (.int (nI w)), none, none]) (st' := [.int 99, .int 0, .int (nI w)]) (h' := mk M T) (fun _ => rfl) ?_
        refine R_call2 (i := .invokestatic 53) (kd := 1) (y := M_X8_in) (as := [.int (nI w), .int 0, .int 99]) (r := []) (L0 := [some (.int (nI w)), some (.int 0), some (.int 99)]) (v1 := some (.int 1)) (v2 := some (.int 0)) (h1' := mk M T) (h2' := mk M T) (pc' := 44) (st1 := [.int 1]) (st2 := [.int 0]) rfl rfl rfl rfl rfl rfl (m_in) (fun g4 => ?_) (fun g4 => ?_)
        · refine R_go 5 (pc' := 61) (L' := [some (.ref 64), some (.int (nI k)), some (.int (nI f)), some (.int (nI l)), some (.int (nI e)), some (.int (nI w)), none, none]) (st' := [.int (M 62 6)]) (h' := mk M T) (fun _ => rfl) ?_
          refine R_top (y := 8) (hP) ?_
          refine R_go 6 (pc' := 73) (L' := [some (.ref 64), some (.int (nI k)), some (.int (nI f)), some (.int (nI l)), some (.int (nI e)), some (.int (nI w)), some (.int 8), none]) (st' := [.int (-1000000004), .ref 64]) (h' := mk M T) (fun _ => rfl) ?_
          refine R_callD (i := .invokevirtual 81) (kd := 0) (y := M_X8_error) (as := [.ref 64, .int (-1000000004)]) (r := []) (L0 := [some (.ref 64), some (.int (-1000000004))]) (v := some (.int (-1000000004))) (h' := mk (up M 64 4 (M 64 4 + 1)) T) (pc' := 76) (st' := [.int (-1000000004)]) rfl rfl rfl rfl rfl rfl (m_error_4) ?_
          refine R_ret 1 (pcr := 76) (v := some (.int (-1000000004))) (h' := mk (up M 64 4 (M 64 4 + 1)) T) (fun _ => rfl) ?_
          exact ⟨rfl, rfl⟩
        · exact absurd (nI_in2 (a := 0) (b := 99) (by omega) hw (by omega)) g4
      · exact absurd (⟨nI_pos' (by omega), nI_lt he (by omega)⟩) g3
    · exact absurd (nI_in2 (a := 0) (b := 9) (by omega) hl (by omega)) g2
  · exact absurd (nI_in2 (a := 0) (b := 39) (by omega) hf (by omega)) g1
set_option maxRecDepth 100000 in
set_option maxHeartbeats 4000000 in
theorem x_pane_i {ro : xRO} {d : Nat} {M : xM} {T : Nat} {H : Nat} (hH : M 1 7 = nI H) (h6 : H ≤ 6) {P : Nat} (hP : M 1 6 = nI P) (h8 : P < 8) {k : Nat} (hk : k ≤ 69) {f : Nat} (hf : f ≤ 39) {l : Nat} (hl : l ≤ 9) {e : Nat} (he : e < H) {w : Nat} (hw : w ≤ 99) : Rn ro (d + 90) M_X7_pane 0 [some (.ref 3), some (.int (nI k)), some (.int (nI f)), some (.int (nI l)), some (.int (nI e)), some (.int (nI w)), none] [] (mk M T) (fun r h => r = some (.int (nI P)) ∧ h = mk (up (up (up (up (up (up (up (up M 1 6 (nI (P + 1))) (3 + P) 0 (nI (k / 10))) (3 + P) 1 (nI (k % 10))) (3 + P) 2 (nI (f / 10))) (3 + P) 3 (nI (f % 10))) (3 + P) 4 (nI l)) (3 + P) 5 (nI e)) (3 + P) 6 (nI w)) T) := by
  refine R_go 3 (pc' := 4) (L' := [some (.ref 3), some (.int (nI k)), some (.int (nI f)), some (.int (nI l)), some (.int (nI e)), some (.int (nI w)), none]) (st' := [.int 69, .int 0, .int (nI k)]) (h' := mk M T) (fun _ => rfl) ?_
  refine R_call2 (i := .invokestatic 78) (kd := 1) (y := M_X7_within) (as := [.int (nI k), .int 0, .int 69]) (r := []) (L0 := [some (.int (nI k)), some (.int 0), some (.int 69)]) (v1 := some (.int 1)) (v2 := some (.int 0)) (h1' := mk M T) (h2' := mk M T) (pc' := 7) (st1 := [.int 1]) (st2 := [.int 0]) rfl rfl rfl rfl rfl rfl (c_within) (fun g1 => ?_) (fun g1 => ?_)
  · refine R_go 4 (pc' := 14) (L' := [some (.ref 3), some (.int (nI k)), some (.int (nI f)), some (.int (nI l)), some (.int (nI e)), some (.int (nI w)), none]) (st' := [.int 39, .int 0, .int (nI f)]) (h' := mk M T) (fun _ => rfl) ?_
    refine R_call2 (i := .invokestatic 78) (kd := 1) (y := M_X7_within) (as := [.int (nI f), .int 0, .int 39]) (r := []) (L0 := [some (.int (nI f)), some (.int 0), some (.int 39)]) (v1 := some (.int 1)) (v2 := some (.int 0)) (h1' := mk M T) (h2' := mk M T) (pc' := 17) (st1 := [.int 1]) (st2 := [.int 0]) rfl rfl rfl rfl rfl rfl (c_within) (fun g2 => ?_) (fun g2 => ?_)
    · refine R_go 4 (pc' := 24) (L' := [some (.ref 3), some (.int (nI k)), some (.int (nI f)), some (.int (nI l)), some (.int (nI e)), some (.int (nI w)), none]) (st' := [.int 9, .int 0, .int (nI l)]) (h' := mk M T) (fun _ => rfl) ?_
      refine R_call2 (i := .invokestatic 78) (kd := 1) (y := M_X7_within) (as := [.int (nI l), .int 0, .int 9]) (r := []) (L0 := [some (.int (nI l)), some (.int 0), some (.int 9)]) (v1 := some (.int 1)) (v2 := some (.int 0)) (h1' := mk M T) (h2' := mk M T) (pc' := 27) (st1 := [.int 1]) (st2 := [.int 0]) rfl rfl rfl rfl rfl rfl (c_within) (fun g3 => ?_) (fun g3 => ?_)
      · refine R_go 4 (pc' := 42) (L' := [some (.ref 3), some (.int (nI k)), some (.int (nI f)), some (.int (nI l)), some (.int (nI e)), some (.int (nI w)), none]) (st' := [.int (nI e), .ref 4]) (h' := mk M T) (fun _ => rfl) ?_
        refine R_call2 (i := .invokevirtual 82) (kd := 0) (y := M_X0_hasHeir) (as := [.ref 4, .int (nI e)]) (r := []) (L0 := [some (.ref 4), some (.int (nI e))]) (v1 := some (.int 1)) (v2 := some (.int 0)) (h1' := mk M T) (h2' := mk M T) (pc' := 45) (st1 := [.int 1]) (st2 := [.int 0]) rfl rfl rfl rfl rfl rfl (c_hasHeir hH h6) (fun g4 => ?_) (fun g4 => ?_)
        · refine R_go 4 (pc' := 53) (L' := [some (.ref 3), some (.int (nI k)), some (.int (nI f)), some (.int (nI l)), some (.int (nI e)), some (.int (nI w)), none]) (st' := [.int 99, .int 0, .int (nI w)]) (h' := mk M T) (fun _ => rfl) ?_
          refine R_call2 (i := .invokestatic 78) (kd := 1) (y := M_X7_within) (as := [.int (nI w), .int 0, .int 99]) (r := []) (L0 := [some (.int (nI w)), some (.int 0), some (.int 99)]) (v1 := some (.int 1)) (v2 := some (.int 0)) (h1' := mk M T) (h2' := mk M T) (pc' := 56) (st1 := [.int 1]) (st2 := [.int 0]) rfl rfl rfl rfl rfl rfl (c_within) (fun g5 => ?_) (fun g5 => ?_)
          · refine R_go 3 (pc' := 69) (L' := [some (.ref 3), some (.int (nI k)), some (.int (nI f)), some (.int (nI l)), some (.int (nI e)), some (.int (nI w)), none]) (st' := [.ref 4]) (h' := mk M T) (fun _ => rfl) ?_
            refine R_callD (i := .invokevirtual 86) (kd := 0) (y := M_X0_addPane) (as := [.ref 4]) (r := []) (L0 := [some (.ref 4)]) (v := some (.ref (3 + P + 3))) (h' := mk (up M 1 6 (nI (P + 1))) T) (pc' := 72) (st' := [.ref (3 + P + 3)]) rfl rfl rfl rfl rfl rfl (c_addPane hP h8) ?_
            refine R_go 7 (pc' := 91) (L' := [some (.ref 3), some (.int (nI k)), some (.int (nI f)), some (.int (nI l)), some (.int (nI e)), some (.int (nI w)), some (.ref (3 + P + 3))]) (st' := [.int ((nI k) / 10), .ref (3 + P + 3)]) (h' := mk (up M 1 6 (nI (P + 1))) T) (fun _ => rfl) ?_
            refine R_top (pk_div (a := k) (d := 10) (by omega) (by omega) (by omega)) ?_
            refine R_putI (i := 90) (j := 0) (c := 3 + P) (sh_pane (by omega)) rfl rfl rfl ?_
            refine R_go 4 (pc' := 100) (L' := [some (.ref 3), some (.int (nI k)), some (.int (nI f)), some (.int (nI l)), some (.int (nI e)), some (.int (nI w)), some (.ref (3 + P + 3))]) (st' := [.int ((nI k) - (nI k) / 10 * 10), .ref (3 + P + 3)]) (h' := mk (up (up M 1 6 (nI (P + 1))) (3 + P) 0 (nI (k / 10))) T) (fun _ => rfl) ?_
            refine R_top (pk_rem (a := k) (d := 10) (by omega) (by omega) (by omega)) ?_
            refine R_putI (i := 95) (j := 1) (c := 3 + P) (sh_pane (by omega)) rfl rfl rfl ?_
            refine R_go 4 (pc' := 109) (L' := [some (.ref 3), some (.int (nI k)), some (.int (nI f)), some (.int (nI l)), some (.int (nI e)), some (.int (nI w)), some (.ref (3 + P + 3))]) (st' := [.int ((nI f) / 10), .ref (3 + P + 3)]) (h' := mk (up (up (up M 1 6 (nI (P + 1))) (3 + P) 0 (nI (k / 10))) (3 + P) 1 (nI (k % 10))) T) (fun _ => rfl) ?_
            refine R_top (pk_div (a := f) (d := 10) (by omega) (by omega) (by omega)) ?_
            refine R_putI (i := 98) (j := 2) (c := 3 + P) (sh_pane (by omega)) rfl rfl rfl ?_
            refine R_go 4 (pc' := 118) (L' := [some (.ref 3), some (.int (nI k)), some (.int (nI f)), some (.int (nI l)), some (.int (nI e)), some (.int (nI w)), some (.ref (3 + P + 3))]) (st' := [.int ((nI f) - (nI f) / 10 * 10), .ref (3 + P + 3)]) (h' := mk (up (up (up (up M 1 6 (nI (P + 1))) (3 + P) 0 (nI (k / 10))) (3 + P) 1 (nI (k % 10))) (3 + P) 2 (nI (f / 10))) T) (fun _ => rfl) ?_
            refine R_top (pk_rem (a := f) (d := 10) (by omega) (by omega) (by omega)) ?_
            refine R_putI (i := 101) (j := 3) (c := 3 + P) (sh_pane (by omega)) rfl rfl rfl ?_
            refine R_go 2 (pc' := 124) (L' := [some (.ref 3), some (.int (nI k)), some (.int (nI f)), some (.int (nI l)), some (.int (nI e)), some (.int (nI w)), some (.ref (3 + P + 3))]) (st' := [.int (nI l), .ref (3 + P + 3)]) (h' := mk (up (up (up (up (up M 1 6 (nI (P + 1))) (3 + P) 0 (nI (k / 10))) (3 + P) 1 (nI (k % 10))) (3 + P) 2 (nI (f / 10))) (3 + P) 3 (nI (f % 10))) T) (fun _ => rfl) ?_
            refine R_putI (i := 104) (j := 4) (c := 3 + P) (sh_pane (by omega)) rfl rfl rfl ?_
            refine R_go 2 (pc' := 131) (L' := [some (.ref 3), some (.int (nI k)), some (.int (nI f)), some (.int (nI l)), some (.int (nI e)), some (.int (nI w)), some (.ref (3 + P + 3))]) (st' := [.int (nI e), .ref (3 + P + 3)]) (h' := mk (up (up (up (up (up (up M 1 6 (nI (P + 1))) (3 + P) 0 (nI (k / 10))) (3 + P) 1 (nI (k % 10))) (3 + P) 2 (nI (f / 10))) (3 + P) 3 (nI (f % 10))) (3 + P) 4 (nI l)) T) (fun _ => rfl) ?_
            refine R_putI (i := 107) (j := 5) (c := 3 + P) (sh_pane (by omega)) rfl rfl rfl ?_
            refine R_go 2 (pc' := 138) (L' := [some (.ref 3), some (.int (nI k)), some (.int (nI f)), some (.int (nI l)), some (.int (nI e)), some (.int (nI w)), some (.ref (3 + P + 3))]) (st' := [.int (nI w), .ref (3 + P + 3)]) (h' := mk (up (up (up (up (up (up (up M 1 6 (nI (P + 1))) (3 + P) 0 (nI (k / 10))) (3 + P) 1 (nI (k % 10))) (3 + P) 2 (nI (f / 10))) (3 + P) 3 (nI (f % 10))) (3 + P) 4 (nI l)) (3 + P) 5 (nI e)) T) (fun _ => rfl) ?_
            refine R_putI (i := 110) (j := 6) (c := 3 + P) (sh_pane (by omega)) rfl rfl rfl ?_
            refine R_go 3 (pc' := 148) (L' := [some (.ref 3), some (.int (nI k)), some (.int (nI f)), some (.int (nI l)), some (.int (nI e)), some (.int (nI w)), some (.ref (3 + P + 3))]) (st' := [.int ((up (up (up (up (up (up (up (up M 1 6 (nI (P + 1))) (3 + P) 0 (nI (k / 10))) (3 + P) 1 (nI (k % 10))) (3 + P) 2 (nI (f / 10))) (3 + P) 3 (nI (f % 10))) (3 + P) 4 (nI l)) (3 + P) 5 (nI e)) (3 + P) 6 (nI w)) 1 6)]) (h' := mk (up (up (up (up (up (up (up (up M 1 6 (nI (P + 1))) (3 + P) 0 (nI (k / 10))) (3 + P) 1 (nI (k % 10))) (3 + P) 2 (nI (f / 10))) (3 + P) 3 (nI (f % 10))) (3 + P) 4 (nI l)) (3 + P) 5 (nI e)) (3 + P) 6 (nI w)) T) (fun _ => rfl) ?_
            refine R_top (y := nI (P + 1)) ((by simp only [up_rd]; grind)) ?_
            refine R_go 2 (pc' := 150) (L' := [some (.ref 3), some (.int (nI k)), some (.int (nI f)), some (.int (nI l)), some (.int (nI e)), some (.int (nI w)), some (.ref (3 + P + 3))]) (st' := [.int (nI (P + 1) - 1)]) (h' := mk (up (up (up (up (up (up (up (up M 1 6 (nI (P + 1))) (3 + P) 0 (nI (k / 10))) (3 + P) 1 (nI (k % 10))) (3 + P) 2 (nI (f / 10))) (3 + P) 3 (nI (f % 10))) (3 + P) 4 (nI l)) (3 + P) 5 (nI e)) (3 + P) 6 (nI w)) T) (fun _ => rfl) ?_
            refine R_top (nI_pred P) ?_
            refine R_ret 1 (pcr := 150) (v := some (.int (nI P))) (h' := mk (up (up (up (up (up (up (up (up M 1 6 (nI (P + 1))) (3 + P) 0 (nI (k / 10))) (3 + P) 1 (nI (k % 10))) (3 + P) 2 (nI (f / 10))) (3 + P) 3 (nI (f % 10))) (3 + P) 4 (nI l)) (3 + P) 5 (nI e)) (3 + P) 6 (nI w)) T) (fun _ => rfl) ?_
            exact ⟨rfl, rfl⟩
          · exact absurd (nI_in2 (a := 0) (b := 99) (by omega) hw (by omega)) g5
        · exact absurd (⟨nI_pos' (by omega), nI_lt he (by omega)⟩) g4
      · exact absurd (nI_in2 (a := 0) (b := 9) (by omega) hl (by omega)) g3
    · exact absurd (nI_in2 (a := 0) (b := 39) (by omega) hf (by omega)) g2
  · exact absurd (nI_in2 (a := 0) (b := 69) (by omega) hk (by omega)) g1
set_option maxRecDepth 100000 in
set_option maxHeartbeats 4000000 in
theorem m_pane_i {ro : xRO} {d : Nat} {M : xM} {T : Nat} {H : Nat} (hH : M 62 7 = nI H) (h6 : H ≤ 6) {P : Nat} (hP : M 62 6 = nI P) (h8 : P < 8) {k : Nat} (hk : k ≤ 69) {f : Nat} (hf : f ≤ 39) {l : Nat} (hl : l ≤ 9) {e : Nat} (he : e < H) {w : Nat} (hw : w ≤ 99) : Rn ro (d + 90) M_X8_pane 0 [some (.ref 64), some (.int (nI k)), some (.int (nI f)), some (.int (nI l)), some (.int (nI e)), some (.int (nI w)), none, none] [] (mk M T) (fun r h => r = some (.int (nI P)) ∧ h = mk (up (up (up (up (up (up (up (up M 62 6 (nI (P + 1))) 62 (10 + 7 * P) (nI (k / 10))) 62 (10 + 7 * P + 1) (nI (k % 10))) 62 (10 + 7 * P + 2) (nI (f / 10))) 62 (10 + 7 * P + 3) (nI (f % 10))) 62 (10 + 7 * P + 4) (nI l)) 62 (10 + 7 * P + 5) (nI e)) 62 (10 + 7 * P + 6) (nI w)) T) := by
  refine R_go 1 (pc' := 1) (L' := [some (.ref 64), some (.int (nI k)), some (.int (nI f)), some (.int (nI l)), some (.int (nI e)), some (.int (nI w)), none, none]) (st' := [.int (nI k)]) (h' := mk M T) (fun _ => rfl) ?_
  refine R_callD (i := .invokestatic 84) (kd := 1) (y := M_X8_isKm) (as := [.int (nI k)]) (r := []) (L0 := [some (.int (nI k))]) (v := some (.int 1)) (h' := mk M T) (pc' := 4) (st' := [.int 1]) rfl rfl rfl rfl rfl rfl (m_isKm_i hk) ?_
  refine R_go 4 (pc' := 11) (L' := [some (.ref 64), some (.int (nI k)), some (.int (nI f)), some (.int (nI l)), some (.int (nI e)), some (.int (nI w)), none, none]) (st' := [.int 39, .int 0, .int (nI f)]) (h' := mk M T) (fun _ => rfl) ?_
  refine R_call2 (i := .invokestatic 53) (kd := 1) (y := M_X8_in) (as := [.int (nI f), .int 0, .int 39]) (r := []) (L0 := [some (.int (nI f)), some (.int 0), some (.int 39)]) (v1 := some (.int 1)) (v2 := some (.int 0)) (h1' := mk M T) (h2' := mk M T) (pc' := 14) (st1 := [.int 1]) (st2 := [.int 0]) rfl rfl rfl rfl rfl rfl (m_in) (fun g1 => ?_) (fun g1 => ?_)
  · refine R_go 4 (pc' := 21) (L' := [some (.ref 64), some (.int (nI k)), some (.int (nI f)), some (.int (nI l)), some (.int (nI e)), some (.int (nI w)), none, none]) (st' := [.int 9, .int 0, .int (nI l)]) (h' := mk M T) (fun _ => rfl) ?_
    refine R_call2 (i := .invokestatic 53) (kd := 1) (y := M_X8_in) (as := [.int (nI l), .int 0, .int 9]) (r := []) (L0 := [some (.int (nI l)), some (.int 0), some (.int 9)]) (v1 := some (.int 1)) (v2 := some (.int 0)) (h1' := mk M T) (h2' := mk M T) (pc' := 24) (st1 := [.int 1]) (st2 := [.int 0]) rfl rfl rfl rfl rfl rfl (m_in) (fun g2 => ?_) (fun g2 => ?_)
    · refine R_go 3 (pc' := 30) (L' := [some (.ref 64), some (.int (nI k)), some (.int (nI f)), some (.int (nI l)), some (.int (nI e)), some (.int (nI w)), none, none]) (st' := [.int (nI e), .ref 64]) (h' := mk M T) (fun _ => rfl) ?_
      refine R_call2 (i := .invokevirtual 88) (kd := 0) (y := M_X8_isHeir) (as := [.ref 64, .int (nI e)]) (r := []) (L0 := [some (.ref 64), some (.int (nI e))]) (v1 := some (.int 1)) (v2 := some (.int 0)) (h1' := mk M T) (h2' := mk M T) (pc' := 33) (st1 := [.int 1]) (st2 := [.int 0]) rfl rfl rfl rfl rfl rfl (m_isHeir hH h6) (fun g3 => ?_) (fun g3 => ?_)
      · refine R_go 4 (pc' := 41) (L' := [some (.ref 64), some (.int (nI k)), some (.int (nI f)), some (.int (nI l)), some (.int (nI e)), some (.int (nI w)), none, none]) (st' := [.int 99, .int 0, .int (nI w)]) (h' := mk M T) (fun _ => rfl) ?_
        refine R_call2 (i := .invokestatic 53) (kd := 1) (y := M_X8_in) (as := [.int (nI w), .int 0, .int 99]) (r := []) (L0 := [some (.int (nI w)), some (.int 0), some (.int 99)]) (v1 := some (.int 1)) (v2 := some (.int 0)) (h1' := mk M T) (h2' := mk M T) (pc' := 44) (st1 := [.int 1]) (st2 := [.int 0]) rfl rfl rfl rfl rfl rfl (m_in) (fun g4 => ?_) (fun g4 => ?_)
        · refine R_go 5 (pc' := 61) (L' := [some (.ref 64), some (.int (nI k)), some (.int (nI f)), some (.int (nI l)), some (.int (nI e)), some (.int (nI w)), none, none]) (st' := [.int (M 62 6)]) (h' := mk M T) (fun _ => rfl) ?_
          refine R_top (y := nI P) (hP) ?_
          refine R_ifn 4 (c := (nI P) = 8) (t := 77) (f := 70) (L' := [some (.ref 64), some (.int (nI k)), some (.int (nI f)), some (.int (nI l)), some (.int (nI e)), some (.int (nI w)), some (.int (nI P)), none]) (st' := []) (h' := mk M T) (fun _ => rfl) (fun g5 => ?_) (fun g5 => ?_)
          · replace g5 : ¬ P = 8 := fun q => g5 ((nI_eq (a := P) (b := 8) (by omega) (by omega)).mpr q)
            refine R_go 4 (pc' := 84) (L' := [some (.ref 64), some (.int (nI k)), some (.int (nI f)), some (.int (nI l)), some (.int (nI e)), some (.int (nI w)), some (.int (nI P)), none]) (st' := [.int (7 * nI P), .int 10]) (h' := mk M T) (fun _ => rfl) ?_
            refine R_top (pk_mul 7 P) ?_
            refine R_go 1 (pc' := 85) (L' := [some (.ref 64), some (.int (nI k)), some (.int (nI f)), some (.int (nI l)), some (.int (nI e)), some (.int (nI w)), some (.int (nI P)), none]) (st' := [.int (10 + nI (7 * P))]) (h' := mk M T) (fun _ => rfl) ?_
            refine R_top (nI_add 10 (7 * P)) ?_
            refine R_go 6 (pc' := 95) (L' := [some (.ref 64), some (.int (nI k)), some (.int (nI f)), some (.int (nI l)), some (.int (nI e)), some (.int (nI w)), some (.int (nI P)), some (.int (nI (10 + (7 * P))))]) (st' := [.int (M 62 6), .int 6, .ref 65]) (h' := mk M T) (fun _ => rfl) ?_
            refine R_top (y := nI P) (hP) ?_
            refine R_go 2 (pc' := 97) (L' := [some (.ref 64), some (.int (nI k)), some (.int (nI f)), some (.int (nI l)), some (.int (nI e)), some (.int (nI w)), some (.int (nI P)), some (.int (nI (10 + (7 * P))))]) (st' := [.int (nI P + 1), .int 6, .ref 65]) (h' := mk M T) (fun _ => rfl) ?_
            refine R_top (nI_add P 1) ?_
            refine R_go 7 (pc' := 108) (L' := [some (.ref 64), some (.int (nI k)), some (.int (nI f)), some (.int (nI l)), some (.int (nI e)), some (.int (nI w)), some (.int (nI P)), some (.int (nI (10 + (7 * P))))]) (st' := [.int ((nI k) / 10), .int (nI (10 + (7 * P))), .ref 65]) (h' := mk (up M 62 6 (nI (P + 1))) T) (fun _ => rfl) ?_
            refine R_top (pk_div (a := k) (d := 10) (by omega) (by omega) (by omega)) ?_
            refine R_iast (c := 62) (n := 398) (j := 10 + (7 * P)) rfl rfl (by omega) (by decide) ?_
            refine R_go 5 (pc' := 117) (L' := [some (.ref 64), some (.int (nI k)), some (.int (nI f)), some (.int (nI l)), some (.int (nI e)), some (.int (nI w)), some (.int (nI P)), some (.int (nI (10 + (7 * P))))]) (st' := [.int (nI (10 + (7 * P)) + 1), .ref 65]) (h' := mk (up (up M 62 6 (nI (P + 1))) 62 (10 + (7 * P)) (nI (k / 10))) T) (fun _ => rfl) ?_
            refine R_top (nI_add (10 + (7 * P)) 1) ?_
            refine R_go 3 (pc' := 121) (L' := [some (.ref 64), some (.int (nI k)), some (.int (nI f)), some (.int (nI l)), some (.int (nI e)), some (.int (nI w)), some (.int (nI P)), some (.int (nI (10 + (7 * P))))]) (st' := [.int ((nI k) - (nI k) / 10 * 10), .int (nI ((10 + (7 * P)) + 1)), .ref 65]) (h' := mk (up (up M 62 6 (nI (P + 1))) 62 (10 + (7 * P)) (nI (k / 10))) T) (fun _ => rfl) ?_
            refine R_top (pk_rem (a := k) (d := 10) (by omega) (by omega) (by omega)) ?_
            refine R_iast (c := 62) (n := 398) (j := (10 + (7 * P)) + 1) rfl rfl (by omega) (by decide) ?_
            refine R_go 5 (pc' := 130) (L' := [some (.ref 64), some (.int (nI k)), some (.int (nI f)), some (.int (nI l)), some (.int (nI e)), some (.int (nI w)), some (.int (nI P)), some (.int (nI (10 + (7 * P))))]) (st' := [.int (nI (10 + (7 * P)) + 2), .ref 65]) (h' := mk (up (up (up M 62 6 (nI (P + 1))) 62 (10 + (7 * P)) (nI (k / 10))) 62 ((10 + (7 * P)) + 1) (nI (k % 10))) T) (fun _ => rfl) ?_
            refine R_top (nI_add (10 + (7 * P)) 2) ?_
            refine R_go 3 (pc' := 134) (L' := [some (.ref 64), some (.int (nI k)), some (.int (nI f)), some (.int (nI l)), some (.int (nI e)), some (.int (nI w)), some (.int (nI P)), some (.int (nI (10 + (7 * P))))]) (st' := [.int ((nI f) / 10), .int (nI ((10 + (7 * P)) + 2)), .ref 65]) (h' := mk (up (up (up M 62 6 (nI (P + 1))) 62 (10 + (7 * P)) (nI (k / 10))) 62 ((10 + (7 * P)) + 1) (nI (k % 10))) T) (fun _ => rfl) ?_
            refine R_top (pk_div (a := f) (d := 10) (by omega) (by omega) (by omega)) ?_
            refine R_iast (c := 62) (n := 398) (j := (10 + (7 * P)) + 2) rfl rfl (by omega) (by decide) ?_
            refine R_go 5 (pc' := 143) (L' := [some (.ref 64), some (.int (nI k)), some (.int (nI f)), some (.int (nI l)), some (.int (nI e)), some (.int (nI w)), some (.int (nI P)), some (.int (nI (10 + (7 * P))))]) (st' := [.int (nI (10 + (7 * P)) + 3), .ref 65]) (h' := mk (up (up (up (up M 62 6 (nI (P + 1))) 62 (10 + (7 * P)) (nI (k / 10))) 62 ((10 + (7 * P)) + 1) (nI (k % 10))) 62 ((10 + (7 * P)) + 2) (nI (f / 10))) T) (fun _ => rfl) ?_
            refine R_top (nI_add (10 + (7 * P)) 3) ?_
            refine R_go 3 (pc' := 147) (L' := [some (.ref 64), some (.int (nI k)), some (.int (nI f)), some (.int (nI l)), some (.int (nI e)), some (.int (nI w)), some (.int (nI P)), some (.int (nI (10 + (7 * P))))]) (st' := [.int ((nI f) - (nI f) / 10 * 10), .int (nI ((10 + (7 * P)) + 3)), .ref 65]) (h' := mk (up (up (up (up M 62 6 (nI (P + 1))) 62 (10 + (7 * P)) (nI (k / 10))) 62 ((10 + (7 * P)) + 1) (nI (k % 10))) 62 ((10 + (7 * P)) + 2) (nI (f / 10))) T) (fun _ => rfl) ?_
            refine R_top (pk_rem (a := f) (d := 10) (by omega) (by omega) (by omega)) ?_
            refine R_iast (c := 62) (n := 398) (j := (10 + (7 * P)) + 3) rfl rfl (by omega) (by decide) ?_
            refine R_go 5 (pc' := 156) (L' := [some (.ref 64), some (.int (nI k)), some (.int (nI f)), some (.int (nI l)), some (.int (nI e)), some (.int (nI w)), some (.int (nI P)), some (.int (nI (10 + (7 * P))))]) (st' := [.int (nI (10 + (7 * P)) + 4), .ref 65]) (h' := mk (up (up (up (up (up M 62 6 (nI (P + 1))) 62 (10 + (7 * P)) (nI (k / 10))) 62 ((10 + (7 * P)) + 1) (nI (k % 10))) 62 ((10 + (7 * P)) + 2) (nI (f / 10))) 62 ((10 + (7 * P)) + 3) (nI (f % 10))) T) (fun _ => rfl) ?_
            refine R_top (nI_add (10 + (7 * P)) 4) ?_
            refine R_go 1 (pc' := 157) (L' := [some (.ref 64), some (.int (nI k)), some (.int (nI f)), some (.int (nI l)), some (.int (nI e)), some (.int (nI w)), some (.int (nI P)), some (.int (nI (10 + (7 * P))))]) (st' := [.int (nI l), .int (nI ((10 + (7 * P)) + 4)), .ref 65]) (h' := mk (up (up (up (up (up M 62 6 (nI (P + 1))) 62 (10 + (7 * P)) (nI (k / 10))) 62 ((10 + (7 * P)) + 1) (nI (k % 10))) 62 ((10 + (7 * P)) + 2) (nI (f / 10))) 62 ((10 + (7 * P)) + 3) (nI (f % 10))) T) (fun _ => rfl) ?_
            refine R_iast (c := 62) (n := 398) (j := (10 + (7 * P)) + 4) rfl rfl (by omega) (by decide) ?_
            refine R_go 5 (pc' := 166) (L' := [some (.ref 64), some (.int (nI k)), some (.int (nI f)), some (.int (nI l)), some (.int (nI e)), some (.int (nI w)), some (.int (nI P)), some (.int (nI (10 + (7 * P))))]) (st' := [.int (nI (10 + (7 * P)) + 5), .ref 65]) (h' := mk (up (up (up (up (up (up M 62 6 (nI (P + 1))) 62 (10 + (7 * P)) (nI (k / 10))) 62 ((10 + (7 * P)) + 1) (nI (k % 10))) 62 ((10 + (7 * P)) + 2) (nI (f / 10))) 62 ((10 + (7 * P)) + 3) (nI (f % 10))) 62 ((10 + (7 * P)) + 4) (nI l)) T) (fun _ => rfl) ?_
            refine R_top (nI_add (10 + (7 * P)) 5) ?_
            refine R_go 1 (pc' := 168) (L' := [some (.ref 64), some (.int (nI k)), some (.int (nI f)), some (.int (nI l)), some (.int (nI e)), some (.int (nI w)), some (.int (nI P)), some (.int (nI (10 + (7 * P))))]) (st' := [.int (nI e), .int (nI ((10 + (7 * P)) + 5)), .ref 65]) (h' := mk (up (up (up (up (up (up M 62 6 (nI (P + 1))) 62 (10 + (7 * P)) (nI (k / 10))) 62 ((10 + (7 * P)) + 1) (nI (k % 10))) 62 ((10 + (7 * P)) + 2) (nI (f / 10))) 62 ((10 + (7 * P)) + 3) (nI (f % 10))) 62 ((10 + (7 * P)) + 4) (nI l)) T) (fun _ => rfl) ?_
            refine R_iast (c := 62) (n := 398) (j := (10 + (7 * P)) + 5) rfl rfl (by omega) (by decide) ?_
            refine R_go 5 (pc' := 178) (L' := [some (.ref 64), some (.int (nI k)), some (.int (nI f)), some (.int (nI l)), some (.int (nI e)), some (.int (nI w)), some (.int (nI P)), some (.int (nI (10 + (7 * P))))]) (st' := [.int (nI (10 + (7 * P)) + 6), .ref 65]) (h' := mk (up (up (up (up (up (up (up M 62 6 (nI (P + 1))) 62 (10 + (7 * P)) (nI (k / 10))) 62 ((10 + (7 * P)) + 1) (nI (k % 10))) 62 ((10 + (7 * P)) + 2) (nI (f / 10))) 62 ((10 + (7 * P)) + 3) (nI (f % 10))) 62 ((10 + (7 * P)) + 4) (nI l)) 62 ((10 + (7 * P)) + 5) (nI e)) T) (fun _ => rfl) ?_
            refine R_top (nI_add (10 + (7 * P)) 6) ?_
            refine R_go 1 (pc' := 180) (L' := [some (.ref 64), some (.int (nI k)), some (.int (nI f)), some (.int (nI l)), some (.int (nI e)), some (.int (nI w)), some (.int (nI P)), some (.int (nI (10 + (7 * P))))]) (st' := [.int (nI w), .int (nI ((10 + (7 * P)) + 6)), .ref 65]) (h' := mk (up (up (up (up (up (up (up M 62 6 (nI (P + 1))) 62 (10 + (7 * P)) (nI (k / 10))) 62 ((10 + (7 * P)) + 1) (nI (k % 10))) 62 ((10 + (7 * P)) + 2) (nI (f / 10))) 62 ((10 + (7 * P)) + 3) (nI (f % 10))) 62 ((10 + (7 * P)) + 4) (nI l)) 62 ((10 + (7 * P)) + 5) (nI e)) T) (fun _ => rfl) ?_
            refine R_iast (c := 62) (n := 398) (j := (10 + (7 * P)) + 6) rfl rfl (by omega) (by decide) ?_
            refine R_ret 2 (pcr := 183) (v := some (.int (nI P))) (h' := mk (up (up (up (up (up (up (up (up M 62 6 (nI (P + 1))) 62 (10 + (7 * P)) (nI (k / 10))) 62 ((10 + (7 * P)) + 1) (nI (k % 10))) 62 ((10 + (7 * P)) + 2) (nI (f / 10))) 62 ((10 + (7 * P)) + 3) (nI (f % 10))) 62 ((10 + (7 * P)) + 4) (nI l)) 62 ((10 + (7 * P)) + 5) (nI e)) 62 ((10 + (7 * P)) + 6) (nI w)) T) (fun _ => rfl) ?_
            exact ⟨rfl, rfl⟩
          · replace g5 : P = 8 := (nI_eq (a := P) (b := 8) (by omega) (by omega)).mp g5
            omega
        · exact absurd (nI_in2 (a := 0) (b := 99) (by omega) hw (by omega)) g4
      · exact absurd (⟨nI_pos' (by omega), nI_lt he (by omega)⟩) g3
    · exact absurd (nI_in2 (a := 0) (b := 9) (by omega) hl (by omega)) g2
  · exact absurd (nI_in2 (a := 0) (b := 39) (by omega) hf (by omega)) g1
set_option maxHeartbeats 4000000 in
theorem op_pane {ro : xRO} {M : xM} {T : Nat} (h : Rel M) {km fc fl he wo : Int32} : OpOK ro M_X7_pane M_X8_pane [some (.ref 3), some (.int km), some (.int fc), some (.int fl), some (.int he), some (.int wo), none] [some (.ref 64), some (.int km), some (.int fc), some (.int fl), some (.int he), some (.int wo), none, none] M T := by
  obtain ⟨P, H, h8, h6, pm, hm, px, hx, a, b1, b2, b3, b4, c2, c3, c4, c5⟩ := rel_all h
  rcases of_in km (b := 69) (by omega) with ⟨k, hk, rfl⟩ | hv
  rotate_left
  · exact OpOK.of (fun d => x_pane_b0 hx h6  hv) (fun d => m_pane_b0 (M := up M 60 1 (M 60 1 + 1)) hm h6  hv) rfl (h.err 1 (by omega))
  rcases of_in fc (b := 39) (by omega) with ⟨f, hf, rfl⟩ | hv
  rotate_left
  · exact OpOK.of (fun d => x_pane_b1 hx h6 hk hv) (fun d => m_pane_b1 (M := up M 60 1 (M 60 1 + 1)) hm h6 hk hv) rfl (h.err 1 (by omega))
  rcases of_in fl (b := 9) (by omega) with ⟨l, hl, rfl⟩ | hv
  rotate_left
  · exact OpOK.of (fun d => x_pane_b2 hx h6 hk hf hv) (fun d => m_pane_b2 (M := up M 60 1 (M 60 1 + 1)) hm h6 hk hf hv) rfl (h.err 1 (by omega))
  rcases nI_cases he H (by omega) with ⟨e, he, rfl⟩ | hv
  rotate_left
  · exact OpOK.of (fun d => x_pane_b3 hx h6 hk hf hl hv) (fun d => m_pane_b3 (M := up M 60 1 (M 60 1 + 1)) hm h6 hk hf hl hv) rfl (h.err 1 (by omega))
  rcases of_in wo (b := 99) (by omega) with ⟨w, hw, rfl⟩ | hv
  rotate_left
  · exact OpOK.of (fun d => x_pane_b4 hx h6 hk hf hl he hv) (fun d => m_pane_b4 (M := up M 60 1 (M 60 1 + 1)) hm h6 hk hf hl he hv) rfl (h.err 1 (by omega))
  rcases Nat.lt_or_ge P 8 with q | q
  · have i0 : iN (nI (k / 10)) 6 := ⟨k / 10, by omega, rfl⟩
    have i1 : iN (nI (k % 10)) 9 := ⟨k % 10, by omega, rfl⟩
    have i2 : iN (nI (f / 10)) 3 := ⟨f / 10, by omega, rfl⟩
    have i3 : iN (nI (f % 10)) 9 := ⟨f % 10, by omega, rfl⟩
    have i4 : iN (nI l) 9 := ⟨l, by omega, rfl⟩
    have i5 : iN (nI e) 5 := ⟨e, by omega, rfl⟩
    have i6 : iN (nI w) 99 := ⟨w, by omega, rfl⟩
    refine OpOK.of (fun d => x_pane_i hx h6 px q hk hf hl he hw) (fun d => m_pane_i (M := up (up (up (up (up (up (up (up M 1 6 (nI (P + 1))) (3 + P) 0 (nI (k / 10))) (3 + P) 1 (nI (k % 10))) (3 + P) 2 (nI (f / 10))) (3 + P) 3 (nI (f % 10))) (3 + P) 4 (nI l)) (3 + P) 5 (nI e)) (3 + P) 6 (nI w)) (by simp only [up_rd]; grind (splits := 60)) h6 (by simp only [up_rd]; grind (splits := 60)) q hk hf hl he hw) rfl ?_
    refine h.now ?_ ?_ ?_ ?_ ?_ ?_ ?_ (P + 1) H ?_ ?_ ?_ ?_ ?_
    · intro c x y; simp only [up_ne x, up_ne (show c ≠ 1 from fun q => y (by omega)), up_ne (show c ≠ 11 from fun q => y (by omega)), up_ne (show c ≠ 12 from fun q => y (by omega)), up_ne (show c ≠ 13 from fun q => y (by omega)), up_ne (show c ≠ 3 + P from fun q => y (by omega))]
    · intro j hj; simp only [up_rd]; grind (splits := 60)
    · unfold hsA; simp only [up_rd]; grind (splits := 60)
    · intro p j hp hj; have := b1 p j hp hj; simp only [up_rd]; grind (splits := 60)
    · intro i hi; have := b2 i hi; have := c5 i hi; simp only [up_rd]; grind (splits := 60)
    · intro i hi; have := b3 i hi; simp only [up_rd]; grind (splits := 60)
    · intro i hi; have := b4 i hi; simp only [up_rd]; grind (splits := 60)
    · unfold rwA; simp only [up_rd]; grind (splits := 60)
    · unfold rwB; simp only [up_rd]; grind (splits := 60)
    · intro p hp; have := c3 p hp; simp only [up_rd]; grind (splits := 60)
    · intro p hp; by_cases hpn : p = P
      · subst hpn; exact ⟨e, he, by simp only [up_rd]; grind (splits := 60)⟩
      · obtain ⟨he', e1, e2⟩ := c4 p (by omega); exact ⟨he', by omega, by simp only [up_rd]; grind (splits := 60)⟩
    · intro i hi; have := c5 i hi; have : iN 0 99999 := ⟨0, by omega, rfl⟩; simp only [up_rd]; grind (splits := 60)
  · obtain rfl : P = 8 := by omega
    exact OpOK.of (fun d => x_pane_full hx h6 px hk hf hl he hw) (fun d => m_pane_full (M := up M 60 4 (M 60 4 + 1)) hm h6 pm hk hf hl he hw) rfl (h.err 4 (by omega))
