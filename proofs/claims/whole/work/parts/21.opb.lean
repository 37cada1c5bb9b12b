/-! OPERATIONS: set, told, count, tell -/
theorem nI_in2 {n a b : Nat} (h1 : a ≤ n) (h2 : n ≤ b) (h3 : b < 2 ^ 31) : nI a ≤ nI n ∧ nI n ≤ nI b := ⟨nI_le h1 (by omega), nI_le h2 h3⟩
theorem of_in (v : Int32) {b : Nat} (hb : b < 2 ^ 31) : (∃ n, n ≤ b ∧ v = nI n) ∨ ¬ (0 ≤ v ∧ v ≤ nI b) := by
  by_cases h : 0 ≤ v ∧ v ≤ nI b
  · obtain ⟨n, h1, h2⟩ := nI_of2 (x := v) (M := nI b) (n := b) (nI_toInt hb) (k2_nlt h.1) h.2
    exact Or.inl ⟨n, h1, h2⟩
  · exact Or.inr h
set_option maxRecDepth 100000 in
set_option maxHeartbeats 4000000 in
theorem x_set_0 {ro : xRO} {d : Nat} {M : xM} {T : Nat} {n : Nat} (hn : n ≤ 40) : Rn ro (d + 90) M_X7_set 0 [some (.ref 3), some (.int 0), some (.int (nI n)), none] [] (mk M T) (fun r h => r = some (.int (M 1 11)) ∧ h = mk (up M 1 11 (nI n)) T) := by
  refine R_go 7 (pc' := 10) (L' := [some (.ref 3), some (.int 0), some (.int (nI n)), some (.int 0)]) (st' := [.int 40, .int 0, .int (nI n)]) (h' := mk M T) (fun _ => rfl) ?_
  refine R_call2 (i := .invokestatic 78) (kd := 1) (y := M_X7_within) (as := [.int (nI n), .int 0, .int 40]) (r := []) (L0 := [some (.int (nI n)), some (.int 0), some (.int 40)]) (v1 := some (.int 1)) (v2 := some (.int 0)) (h1' := mk M T) (h2' := mk M T) (pc' := 13) (st1 := [.int 1]) (st2 := [.int 0]) rfl rfl rfl rfl rfl rfl (c_within) (fun h1 => ?_) (fun h1 => ?_)
  · refine R_ret 12 (pcr := 109) (v := some (.int (M 1 11))) (h' := mk (up M 1 11 (nI n)) T) (fun _ => rfl) ?_
    exact ⟨rfl, rfl⟩
  · exact absurd (nI_in2 (a := 0) (b := 40) (by omega) hn (by omega)) h1
set_option maxRecDepth 100000 in
set_option maxHeartbeats 4000000 in
theorem m_set_0 {ro : xRO} {d : Nat} {M : xM} {T : Nat} {n : Nat} (hn : n ≤ 40) : Rn ro (d + 90) M_X8_set 0 [some (.ref 64), some (.int 0), some (.int (nI n)), none] [] (mk M T) (fun r h => r = some (.int (M 62 0)) ∧ h = mk (up M 62 0 (nI n)) T) := by
  refine R_go 3 (pc' := 3) (L' := [some (.ref 64), some (.int 0), some (.int (nI n)), none]) (st' := [.int 2, .int 0, .int 0]) (h' := mk M T) (fun _ => rfl) ?_
  refine R_call2 (i := .invokestatic 53) (kd := 1) (y := M_X8_in) (as := [.int 0, .int 0, .int 2]) (r := []) (L0 := [some (.int 0), some (.int 0), some (.int 2)]) (v1 := some (.int 1)) (v2 := some (.int 0)) (h1' := mk M T) (h2' := mk M T) (pc' := 6) (st1 := [.int 1]) (st2 := [.int 0]) rfl rfl rfl rfl rfl rfl (m_in) (fun h1 => ?_) (fun h1 => ?_)
  · refine R_go 7 (pc' := 31) (L' := [some (.ref 64), some (.int 0), some (.int (nI n)), none]) (st' := [.int 40, .int 0, .int (nI n)]) (h' := mk M T) (fun _ => rfl) ?_
    refine R_call2 (i := .invokestatic 53) (kd := 1) (y := M_X8_in) (as := [.int (nI n), .int 0, .int 40]) (r := []) (L0 := [some (.int (nI n)), some (.int 0), some (.int 40)]) (v1 := some (.int 1)) (v2 := some (.int 0)) (h1' := mk M T) (h2' := mk M T) (pc' := 34) (st1 := [.int 1]) (st2 := [.int 0]) rfl rfl rfl rfl rfl rfl (m_in) (fun h2 => ?_) (fun h2 => ?_)
    · refine R_go 11 (pc' := 52) (L' := [some (.ref 64), some (.int 0), some (.int (nI n)), some (.int 1)]) (st' := [.int (nI n), .int 0, .ref 64]) (h' := mk M T) (fun _ => rfl) ?_
      refine R_callD (i := .invokevirtual 95) (kd := 0) (y := M_X8_becomes) (as := [.ref 64, .int 0, .int (nI n)]) (r := []) (L0 := [some (.ref 64), some (.int 0), some (.int (nI n)), none]) (v := some (.int (M 62 0))) (h' := mk (up M 62 0 (nI n)) T) (pc' := 55) (st' := [.int (M 62 0)]) rfl rfl rfl rfl rfl rfl (m_becomes (j := 0) (by omega)) ?_
      refine R_ret 2 (pcr := 64) (v := some (.int (M 62 0))) (h' := mk (up M 62 0 (nI n)) T) (fun _ => rfl) ?_
      exact ⟨rfl, rfl⟩
    · exact absurd (nI_in2 (a := 0) (b := 40) (by omega) hn (by omega)) h2
  · exact absurd ((by decide)) h1
set_option maxRecDepth 100000 in
set_option maxHeartbeats 4000000 in
theorem x_set_b0 {ro : xRO} {d : Nat} {M : xM} {T : Nat} {v : Int32} (hv : ¬ (0 ≤ v ∧ v ≤ 40)) : Rn ro (d + 90) M_X7_set 0 [some (.ref 3), some (.int 0), some (.int v), none] [] (mk M T) (fun r h => r = some (.int (-1000000001)) ∧ h = mk (up M 60 1 (M 60 1 + 1)) T) := by
  refine R_go 7 (pc' := 10) (L' := [some (.ref 3), some (.int 0), some (.int v), some (.int 0)]) (st' := [.int 40, .int 0, .int v]) (h' := mk M T) (fun _ => rfl) ?_
  refine R_call2 (i := .invokestatic 78) (kd := 1) (y := M_X7_within) (as := [.int v, .int 0, .int 40]) (r := []) (L0 := [some (.int v), some (.int 0), some (.int 40)]) (v1 := some (.int 1)) (v2 := some (.int 0)) (h1' := mk M T) (h2' := mk M T) (pc' := 13) (st1 := [.int 1]) (st2 := [.int 0]) rfl rfl rfl rfl rfl rfl (c_within) (fun h1 => ?_) (fun h1 => ?_)
  · exact absurd h1 (hv)
  · refine R_go 9 (pc' := 104) (L' := [some (.ref 3), some (.int 0), some (.int v), some (.int 0)]) (st' := [.int 1, .ref 3]) (h' := mk M T) (fun _ => rfl) ?_
    refine R_callD (i := .invokevirtual 75) (kd := 0) (y := M_X7_error) (as := [.ref 3, .int 1]) (r := []) (L0 := [some (.ref 3), some (.int 1)]) (v := some (.int (-1000000001))) (h' := mk (up M 60 1 (M 60 1 + 1)) T) (pc' := 107) (st' := [.int (-1000000001)]) rfl rfl rfl rfl rfl rfl (c_error_1) ?_
    refine R_ret 1 (pcr := 107) (v := some (.int (-1000000001))) (h' := mk (up M 60 1 (M 60 1 + 1)) T) (fun _ => rfl) ?_
    exact ⟨rfl, rfl⟩
set_option maxRecDepth 100000 in
set_option maxHeartbeats 4000000 in
theorem m_set_b0 {ro : xRO} {d : Nat} {M : xM} {T : Nat} {v : Int32} (hv : ¬ (0 ≤ v ∧ v ≤ 40)) : Rn ro (d + 90) M_X8_set 0 [some (.ref 64), some (.int 0), some (.int v), none] [] (mk M T) (fun r h => r = some (.int (-1000000001)) ∧ h = mk (up M 64 1 (M 64 1 + 1)) T) := by
  refine R_go 3 (pc' := 3) (L' := [some (.ref 64), some (.int 0), some (.int v), none]) (st' := [.int 2, .int 0, .int 0]) (h' := mk M T) (fun _ => rfl) ?_
  refine R_call2 (i := .invokestatic 53) (kd := 1) (y := M_X8_in) (as := [.int 0, .int 0, .int 2]) (r := []) (L0 := [some (.int 0), some (.int 0), some (.int 2)]) (v1 := some (.int 1)) (v2 := some (.int 0)) (h1' := mk M T) (h2' := mk M T) (pc' := 6) (st1 := [.int 1]) (st2 := [.int 0]) rfl rfl rfl rfl rfl rfl (m_in) (fun h1 => ?_) (fun h1 => ?_)
  · refine R_go 7 (pc' := 31) (L' := [some (.ref 64), some (.int 0), some (.int v), none]) (st' := [.int 40, .int 0, .int v]) (h' := mk M T) (fun _ => rfl) ?_
    refine R_call2 (i := .invokestatic 53) (kd := 1) (y := M_X8_in) (as := [.int v, .int 0, .int 40]) (r := []) (L0 := [some (.int v), some (.int 0), some (.int 40)]) (v1 := some (.int 1)) (v2 := some (.int 0)) (h1' := mk M T) (h2' := mk M T) (pc' := 34) (st1 := [.int 1]) (st2 := [.int 0]) rfl rfl rfl rfl rfl rfl (m_in) (fun h2 => ?_) (fun h2 => ?_)
    · exact absurd h2 (hv)
    · refine R_go 7 (pc' := 61) (L' := [some (.ref 64), some (.int 0), some (.int v), some (.int 0)]) (st' := [.int (-1000000001), .ref 64]) (h' := mk M T) (fun _ => rfl) ?_
      refine R_callD (i := .invokevirtual 81) (kd := 0) (y := M_X8_error) (as := [.ref 64, .int (-1000000001)]) (r := []) (L0 := [some (.ref 64), some (.int (-1000000001))]) (v := some (.int (-1000000001))) (h' := mk (up M 64 1 (M 64 1 + 1)) T) (pc' := 64) (st' := [.int (-1000000001)]) rfl rfl rfl rfl rfl rfl (m_error_1) ?_
      refine R_ret 1 (pcr := 64) (v := some (.int (-1000000001))) (h' := mk (up M 64 1 (M 64 1 + 1)) T) (fun _ => rfl) ?_
      exact ⟨rfl, rfl⟩
  · exact absurd ((by decide)) h1
set_option maxRecDepth 100000 in
set_option maxHeartbeats 4000000 in
theorem x_set_1 {ro : xRO} {d : Nat} {M : xM} {T : Nat} {n : Nat} (hn : n ≤ 23) : Rn ro (d + 90) M_X7_set 0 [some (.ref 3), some (.int 1), some (.int (nI n)), none] [] (mk M T) (fun r h => r = some (.int (M 1 12)) ∧ h = mk (up M 1 12 (nI n)) T) := by
  refine R_go 10 (pc' := 44) (L' := [some (.ref 3), some (.int 1), some (.int (nI n)), some (.int 0)]) (st' := [.int 23, .int 0, .int (nI n)]) (h' := mk M T) (fun _ => rfl) ?_
  refine R_call2 (i := .invokestatic 78) (kd := 1) (y := M_X7_within) (as := [.int (nI n), .int 0, .int 23]) (r := []) (L0 := [some (.int (nI n)), some (.int 0), some (.int 23)]) (v1 := some (.int 1)) (v2 := some (.int 0)) (h1' := mk M T) (h2' := mk M T) (pc' := 47) (st1 := [.int 1]) (st2 := [.int 0]) rfl rfl rfl rfl rfl rfl (c_within) (fun h1 => ?_) (fun h1 => ?_)
  · refine R_ret 12 (pcr := 109) (v := some (.int (M 1 12))) (h' := mk (up M 1 12 (nI n)) T) (fun _ => rfl) ?_
    exact ⟨rfl, rfl⟩
  · exact absurd (nI_in2 (a := 0) (b := 23) (by omega) hn (by omega)) h1
set_option maxRecDepth 100000 in
set_option maxHeartbeats 4000000 in
theorem m_set_1 {ro : xRO} {d : Nat} {M : xM} {T : Nat} {n : Nat} (hn : n ≤ 23) : Rn ro (d + 90) M_X8_set 0 [some (.ref 64), some (.int 1), some (.int (nI n)), none] [] (mk M T) (fun r h => r = some (.int (M 62 1)) ∧ h = mk (up M 62 1 (nI n)) T) := by
  refine R_go 3 (pc' := 3) (L' := [some (.ref 64), some (.int 1), some (.int (nI n)), none]) (st' := [.int 2, .int 0, .int 1]) (h' := mk M T) (fun _ => rfl) ?_
  refine R_call2 (i := .invokestatic 53) (kd := 1) (y := M_X8_in) (as := [.int 1, .int 0, .int 2]) (r := []) (L0 := [some (.int 1), some (.int 0), some (.int 2)]) (v1 := some (.int 1)) (v2 := some (.int 0)) (h1' := mk M T) (h2' := mk M T) (pc' := 6) (st1 := [.int 1]) (st2 := [.int 0]) rfl rfl rfl rfl rfl rfl (m_in) (fun h1 => ?_) (fun h1 => ?_)
  · refine R_go 10 (pc' := 31) (L' := [some (.ref 64), some (.int 1), some (.int (nI n)), none]) (st' := [.int 23, .int 0, .int (nI n)]) (h' := mk M T) (fun _ => rfl) ?_
    refine R_call2 (i := .invokestatic 53) (kd := 1) (y := M_X8_in) (as := [.int (nI n), .int 0, .int 23]) (r := []) (L0 := [some (.int (nI n)), some (.int 0), some (.int 23)]) (v1 := some (.int 1)) (v2 := some (.int 0)) (h1' := mk M T) (h2' := mk M T) (pc' := 34) (st1 := [.int 1]) (st2 := [.int 0]) rfl rfl rfl rfl rfl rfl (m_in) (fun h2 => ?_) (fun h2 => ?_)
    · refine R_go 11 (pc' := 52) (L' := [some (.ref 64), some (.int 1), some (.int (nI n)), some (.int 1)]) (st' := [.int (nI n), .int 1, .ref 64]) (h' := mk M T) (fun _ => rfl) ?_
      refine R_callD (i := .invokevirtual 95) (kd := 0) (y := M_X8_becomes) (as := [.ref 64, .int 1, .int (nI n)]) (r := []) (L0 := [some (.ref 64), some (.int 1), some (.int (nI n)), none]) (v := some (.int (M 62 1))) (h' := mk (up M 62 1 (nI n)) T) (pc' := 55) (st' := [.int (M 62 1)]) rfl rfl rfl rfl rfl rfl (m_becomes (j := 1) (by omega)) ?_
      refine R_ret 2 (pcr := 64) (v := some (.int (M 62 1))) (h' := mk (up M 62 1 (nI n)) T) (fun _ => rfl) ?_
      exact ⟨rfl, rfl⟩
    · exact absurd (nI_in2 (a := 0) (b := 23) (by omega) hn (by omega)) h2
  · exact absurd ((by decide)) h1
set_option maxRecDepth 100000 in
set_option maxHeartbeats 4000000 in
theorem x_set_b1 {ro : xRO} {d : Nat} {M : xM} {T : Nat} {v : Int32} (hv : ¬ (0 ≤ v ∧ v ≤ 23)) : Rn ro (d + 90) M_X7_set 0 [some (.ref 3), some (.int 1), some (.int v), none] [] (mk M T) (fun r h => r = some (.int (-1000000001)) ∧ h = mk (up M 60 1 (M 60 1 + 1)) T) := by
  refine R_go 10 (pc' := 44) (L' := [some (.ref 3), some (.int 1), some (.int v), some (.int 0)]) (st' := [.int 23, .int 0, .int v]) (h' := mk M T) (fun _ => rfl) ?_
  refine R_call2 (i := .invokestatic 78) (kd := 1) (y := M_X7_within) (as := [.int v, .int 0, .int 23]) (r := []) (L0 := [some (.int v), some (.int 0), some (.int 23)]) (v1 := some (.int 1)) (v2 := some (.int 0)) (h1' := mk M T) (h2' := mk M T) (pc' := 47) (st1 := [.int 1]) (st2 := [.int 0]) rfl rfl rfl rfl rfl rfl (c_within) (fun h1 => ?_) (fun h1 => ?_)
  · exact absurd h1 (hv)
  · refine R_go 6 (pc' := 104) (L' := [some (.ref 3), some (.int 1), some (.int v), some (.int 0)]) (st' := [.int 1, .ref 3]) (h' := mk M T) (fun _ => rfl) ?_
    refine R_callD (i := .invokevirtual 75) (kd := 0) (y := M_X7_error) (as := [.ref 3, .int 1]) (r := []) (L0 := [some (.ref 3), some (.int 1)]) (v := some (.int (-1000000001))) (h' := mk (up M 60 1 (M 60 1 + 1)) T) (pc' := 107) (st' := [.int (-1000000001)]) rfl rfl rfl rfl rfl rfl (c_error_1) ?_
    refine R_ret 1 (pcr := 107) (v := some (.int (-1000000001))) (h' := mk (up M 60 1 (M 60 1 + 1)) T) (fun _ => rfl) ?_
    exact ⟨rfl, rfl⟩
set_option maxRecDepth 100000 in
set_option maxHeartbeats 4000000 in
theorem m_set_b1 {ro : xRO} {d : Nat} {M : xM} {T : Nat} {v : Int32} (hv : ¬ (0 ≤ v ∧ v ≤ 23)) : Rn ro (d + 90) M_X8_set 0 [some (.ref 64), some (.int 1), some (.int v), none] [] (mk M T) (fun r h => r = some (.int (-1000000001)) ∧ h = mk (up M 64 1 (M 64 1 + 1)) T) := by
  refine R_go 3 (pc' := 3) (L' := [some (.ref 64), some (.int 1), some (.int v), none]) (st' := [.int 2, .int 0, .int 1]) (h' := mk M T) (fun _ => rfl) ?_
  refine R_call2 (i := .invokestatic 53) (kd := 1) (y := M_X8_in) (as := [.int 1, .int 0, .int 2]) (r := []) (L0 := [some (.int 1), some (.int 0), some (.int 2)]) (v1 := some (.int 1)) (v2 := some (.int 0)) (h1' := mk M T) (h2' := mk M T) (pc' := 6) (st1 := [.int 1]) (st2 := [.int 0]) rfl rfl rfl rfl rfl rfl (m_in) (fun h1 => ?_) (fun h1 => ?_)
  · refine R_go 10 (pc' := 31) (L' := [some (.ref 64), some (.int 1), some (.int v), none]) (st' := [.int 23, .int 0, .int v]) (h' := mk M T) (fun _ => rfl) ?_
    refine R_call2 (i := .invokestatic 53) (kd := 1) (y := M_X8_in) (as := [.int v, .int 0, .int 23]) (r := []) (L0 := [some (.int v), some (.int 0), some (.int 23)]) (v1 := some (.int 1)) (v2 := some (.int 0)) (h1' := mk M T) (h2' := mk M T) (pc' := 34) (st1 := [.int 1]) (st2 := [.int 0]) rfl rfl rfl rfl rfl rfl (m_in) (fun h2 => ?_) (fun h2 => ?_)
    · exact absurd h2 (hv)
    · refine R_go 7 (pc' := 61) (L' := [some (.ref 64), some (.int 1), some (.int v), some (.int 0)]) (st' := [.int (-1000000001), .ref 64]) (h' := mk M T) (fun _ => rfl) ?_
      refine R_callD (i := .invokevirtual 81) (kd := 0) (y := M_X8_error) (as := [.ref 64, .int (-1000000001)]) (r := []) (L0 := [some (.ref 64), some (.int (-1000000001))]) (v := some (.int (-1000000001))) (h' := mk (up M 64 1 (M 64 1 + 1)) T) (pc' := 64) (st' := [.int (-1000000001)]) rfl rfl rfl rfl rfl rfl (m_error_1) ?_
      refine R_ret 1 (pcr := 64) (v := some (.int (-1000000001))) (h' := mk (up M 64 1 (M 64 1 + 1)) T) (fun _ => rfl) ?_
      exact ⟨rfl, rfl⟩
  · exact absurd ((by decide)) h1
set_option maxRecDepth 100000 in
set_option maxHeartbeats 4000000 in
theorem x_set_2 {ro : xRO} {d : Nat} {M : xM} {T : Nat} {n : Nat} (hn : n ≤ 1) : Rn ro (d + 90) M_X7_set 0 [some (.ref 3), some (.int 2), some (.int (nI n)), none] [] (mk M T) (fun r h => r = some (.int (M 1 13)) ∧ h = mk (up M 1 13 (nI n)) T) := by
  refine R_go 13 (pc' := 77) (L' := [some (.ref 3), some (.int 2), some (.int (nI n)), some (.int 0)]) (st' := [.int 1, .int 0, .int (nI n)]) (h' := mk M T) (fun _ => rfl) ?_
  refine R_call2 (i := .invokestatic 78) (kd := 1) (y := M_X7_within) (as := [.int (nI n), .int 0, .int 1]) (r := []) (L0 := [some (.int (nI n)), some (.int 0), some (.int 1)]) (v1 := some (.int 1)) (v2 := some (.int 0)) (h1' := mk M T) (h2' := mk M T) (pc' := 80) (st1 := [.int 1]) (st2 := [.int 0]) rfl rfl rfl rfl rfl rfl (c_within) (fun h1 => ?_) (fun h1 => ?_)
  · refine R_ret 12 (pcr := 109) (v := some (.int (M 1 13))) (h' := mk (up M 1 13 (nI n)) T) (fun _ => rfl) ?_
    exact ⟨rfl, rfl⟩
  · exact absurd (nI_in2 (a := 0) (b := 1) (by omega) hn (by omega)) h1
set_option maxRecDepth 100000 in
set_option maxHeartbeats 4000000 in
theorem m_set_2 {ro : xRO} {d : Nat} {M : xM} {T : Nat} {n : Nat} (hn : n ≤ 1) : Rn ro (d + 90) M_X8_set 0 [some (.ref 64), some (.int 2), some (.int (nI n)), none] [] (mk M T) (fun r h => r = some (.int (M 62 2)) ∧ h = mk (up M 62 2 (nI n)) T) := by
  refine R_go 3 (pc' := 3) (L' := [some (.ref 64), some (.int 2), some (.int (nI n)), none]) (st' := [.int 2, .int 0, .int 2]) (h' := mk M T) (fun _ => rfl) ?_
  refine R_call2 (i := .invokestatic 53) (kd := 1) (y := M_X8_in) (as := [.int 2, .int 0, .int 2]) (r := []) (L0 := [some (.int 2), some (.int 0), some (.int 2)]) (v1 := some (.int 1)) (v2 := some (.int 0)) (h1' := mk M T) (h2' := mk M T) (pc' := 6) (st1 := [.int 1]) (st2 := [.int 0]) rfl rfl rfl rfl rfl rfl (m_in) (fun h1 => ?_) (fun h1 => ?_)
  · refine R_go 9 (pc' := 31) (L' := [some (.ref 64), some (.int 2), some (.int (nI n)), none]) (st' := [.int 1, .int 0, .int (nI n)]) (h' := mk M T) (fun _ => rfl) ?_
    refine R_call2 (i := .invokestatic 53) (kd := 1) (y := M_X8_in) (as := [.int (nI n), .int 0, .int 1]) (r := []) (L0 := [some (.int (nI n)), some (.int 0), some (.int 1)]) (v1 := some (.int 1)) (v2 := some (.int 0)) (h1' := mk M T) (h2' := mk M T) (pc' := 34) (st1 := [.int 1]) (st2 := [.int 0]) rfl rfl rfl rfl rfl rfl (m_in) (fun h2 => ?_) (fun h2 => ?_)
    · refine R_go 11 (pc' := 52) (L' := [some (.ref 64), some (.int 2), some (.int (nI n)), some (.int 1)]) (st' := [.int (nI n), .int 2, .ref 64]) (h' := mk M T) (fun _ => rfl) ?_
      refine R_callD (i := .invokevirtual 95) (kd := 0) (y := M_X8_becomes) (as := [.ref 64, .int 2, .int (nI n)]) (r := []) (L0 := [some (.ref 64), some (.int 2), some (.int (nI n)), none]) (v := some (.int (M 62 2))) (h' := mk (up M 62 2 (nI n)) T) (pc' := 55) (st' := [.int (M 62 2)]) rfl rfl rfl rfl rfl rfl (m_becomes (j := 2) (by omega)) ?_
      refine R_ret 2 (pcr := 64) (v := some (.int (M 62 2))) (h' := mk (up M 62 2 (nI n)) T) (fun _ => rfl) ?_
      exact ⟨rfl, rfl⟩
    · exact absurd (nI_in2 (a := 0) (b := 1) (by omega) hn (by omega)) h2
  · exact absurd ((by decide)) h1
set_option maxRecDepth 100000 in
set_option maxHeartbeats 4000000 in
theorem x_set_b2 {ro : xRO} {d : Nat} {M : xM} {T : Nat} {v : Int32} (hv : ¬ (0 ≤ v ∧ v ≤ 1)) : Rn ro (d + 90) M_X7_set 0 [some (.ref 3), some (.int 2), some (.int v), none] [] (mk M T) (fun r h => r = some (.int (-1000000001)) ∧ h = mk (up M 60 1 (M 60 1 + 1)) T) := by
  refine R_go 13 (pc' := 77) (L' := [some (.ref 3), some (.int 2), some (.int v), some (.int 0)]) (st' := [.int 1, .int 0, .int v]) (h' := mk M T) (fun _ => rfl) ?_
  refine R_call2 (i := .invokestatic 78) (kd := 1) (y := M_X7_within) (as := [.int v, .int 0, .int 1]) (r := []) (L0 := [some (.int v), some (.int 0), some (.int 1)]) (v1 := some (.int 1)) (v2 := some (.int 0)) (h1' := mk M T) (h2' := mk M T) (pc' := 80) (st1 := [.int 1]) (st2 := [.int 0]) rfl rfl rfl rfl rfl rfl (c_within) (fun h1 => ?_) (fun h1 => ?_)
  · exact absurd h1 (hv)
  · refine R_go 3 (pc' := 104) (L' := [some (.ref 3), some (.int 2), some (.int v), some (.int 0)]) (st' := [.int 1, .ref 3]) (h' := mk M T) (fun _ => rfl) ?_
    refine R_callD (i := .invokevirtual 75) (kd := 0) (y := M_X7_error) (as := [.ref 3, .int 1]) (r := []) (L0 := [some (.ref 3), some (.int 1)]) (v := some (.int (-1000000001))) (h' := mk (up M 60 1 (M 60 1 + 1)) T) (pc' := 107) (st' := [.int (-1000000001)]) rfl rfl rfl rfl rfl rfl (c_error_1) ?_
    refine R_ret 1 (pcr := 107) (v := some (.int (-1000000001))) (h' := mk (up M 60 1 (M 60 1 + 1)) T) (fun _ => rfl) ?_
    exact ⟨rfl, rfl⟩
set_option maxRecDepth 100000 in
set_option maxHeartbeats 4000000 in
theorem m_set_b2 {ro : xRO} {d : Nat} {M : xM} {T : Nat} {v : Int32} (hv : ¬ (0 ≤ v ∧ v ≤ 1)) : Rn ro (d + 90) M_X8_set 0 [some (.ref 64), some (.int 2), some (.int v), none] [] (mk M T) (fun r h => r = some (.int (-1000000001)) ∧ h = mk (up M 64 1 (M 64 1 + 1)) T) := by
  refine R_go 3 (pc' := 3) (L' := [some (.ref 64), some (.int 2), some (.int v), none]) (st' := [.int 2, .int 0, .int 2]) (h' := mk M T) (fun _ => rfl) ?_
  refine R_call2 (i := .invokestatic 53) (kd := 1) (y := M_X8_in) (as := [.int 2, .int 0, .int 2]) (r := []) (L0 := [some (.int 2), some (.int 0), some (.int 2)]) (v1 := some (.int 1)) (v2 := some (.int 0)) (h1' := mk M T) (h2' := mk M T) (pc' := 6) (st1 := [.int 1]) (st2 := [.int 0]) rfl rfl rfl rfl rfl rfl (m_in) (fun h1 => ?_) (fun h1 => ?_)
  · refine R_go 9 (pc' := 31) (L' := [some (.ref 64), some (.int 2), some (.int v), none]) (st' := [.int 1, .int 0, .int v]) (h' := mk M T) (fun _ => rfl) ?_
    refine R_call2 (i := .invokestatic 53) (kd := 1) (y := M_X8_in) (as := [.int v, .int 0, .int 1]) (r := []) (L0 := [some (.int v), some (.int 0), some (.int 1)]) (v1 := some (.int 1)) (v2 := some (.int 0)) (h1' := mk M T) (h2' := mk M T) (pc' := 34) (st1 := [.int 1]) (st2 := [.int 0]) rfl rfl rfl rfl rfl rfl (m_in) (fun h2 => ?_) (fun h2 => ?_)
    · exact absurd h2 (hv)
    · refine R_go 7 (pc' := 61) (L' := [some (.ref 64), some (.int 2), some (.int v), some (.int 0)]) (st' := [.int (-1000000001), .ref 64]) (h' := mk M T) (fun _ => rfl) ?_
      refine R_callD (i := .invokevirtual 81) (kd := 0) (y := M_X8_error) (as := [.ref 64, .int (-1000000001)]) (r := []) (L0 := [some (.ref 64), some (.int (-1000000001))]) (v := some (.int (-1000000001))) (h' := mk (up M 64 1 (M 64 1 + 1)) T) (pc' := 64) (st' := [.int (-1000000001)]) rfl rfl rfl rfl rfl rfl (m_error_1) ?_
      refine R_ret 1 (pcr := 64) (v := some (.int (-1000000001))) (h' := mk (up M 64 1 (M 64 1 + 1)) T) (fun _ => rfl) ?_
      exact ⟨rfl, rfl⟩
  · exact absurd ((by decide)) h1
set_option maxRecDepth 100000 in
set_option maxHeartbeats 4000000 in
theorem x_set_n {ro : xRO} {d : Nat} {M : xM} {T : Nat} {w v : Int32} (w0 : ¬ w = 0) (w1 : ¬ w = 1) (w2 : ¬ w = 2) : Rn ro (d + 90) M_X7_set 0 [some (.ref 3), some (.int w), some (.int v), none] [] (mk M T) (fun r h => r = some (.int (-1000000001)) ∧ h = mk (up M 60 1 (M 60 1 + 1)) T) := by
  refine R_ifn 4 (c := w = 0) (t := 35) (f := 6) (L' := [some (.ref 3), some (.int w), some (.int v), some (.int 0)]) (st' := []) (h' := mk M T) (fun _ => rfl) (fun h1 => ?_) (fun h1 => ?_)
  · refine R_ifn 3 (c := w = 1) (t := 69) (f := 40) (L' := [some (.ref 3), some (.int w), some (.int v), some (.int 0)]) (st' := []) (h' := mk M T) (fun _ => rfl) (fun h2 => ?_) (fun h2 => ?_)
    · refine R_ifn 3 (c := w = 2) (t := 102) (f := 74) (L' := [some (.ref 3), some (.int w), some (.int v), some (.int 0)]) (st' := []) (h' := mk M T) (fun _ => rfl) (fun h3 => ?_) (fun h3 => ?_)
      · refine R_go 2 (pc' := 104) (L' := [some (.ref 3), some (.int w), some (.int v), some (.int 0)]) (st' := [.int 1, .ref 3]) (h' := mk M T) (fun _ => rfl) ?_
        refine R_callD (i := .invokevirtual 75) (kd := 0) (y := M_X7_error) (as := [.ref 3, .int 1]) (r := []) (L0 := [some (.ref 3), some (.int 1)]) (v := some (.int (-1000000001))) (h' := mk (up M 60 1 (M 60 1 + 1)) T) (pc' := 107) (st' := [.int (-1000000001)]) rfl rfl rfl rfl rfl rfl (c_error_1) ?_
        refine R_ret 1 (pcr := 107) (v := some (.int (-1000000001))) (h' := mk (up M 60 1 (M 60 1 + 1)) T) (fun _ => rfl) ?_
        exact ⟨rfl, rfl⟩
      · exact absurd h3 (w2)
    · exact absurd h2 (w1)
  · exact absurd h1 (w0)
set_option maxRecDepth 100000 in
set_option maxHeartbeats 4000000 in
theorem m_set_n {ro : xRO} {d : Nat} {M : xM} {T : Nat} {w v : Int32} (w0 : ¬ w = 0) (w1 : ¬ w = 1) (w2 : ¬ w = 2) : Rn ro (d + 90) M_X8_set 0 [some (.ref 64), some (.int w), some (.int v), none] [] (mk M T) (fun r h => r = some (.int (-1000000001)) ∧ h = mk (up M 64 1 (M 64 1 + 1)) T) := by
  refine R_go 3 (pc' := 3) (L' := [some (.ref 64), some (.int w), some (.int v), none]) (st' := [.int 2, .int 0, .int w]) (h' := mk M T) (fun _ => rfl) ?_
  refine R_call2 (i := .invokestatic 53) (kd := 1) (y := M_X8_in) (as := [.int w, .int 0, .int 2]) (r := []) (L0 := [some (.int w), some (.int 0), some (.int 2)]) (v1 := some (.int 1)) (v2 := some (.int 0)) (h1' := mk M T) (h2' := mk M T) (pc' := 6) (st1 := [.int 1]) (st2 := [.int 0]) rfl rfl rfl rfl rfl rfl (m_in) (fun h1 => ?_) (fun h1 => ?_)
  · exact absurd h1 ((by grind))
  · refine R_go 7 (pc' := 61) (L' := [some (.ref 64), some (.int w), some (.int v), some (.int 0)]) (st' := [.int (-1000000001), .ref 64]) (h' := mk M T) (fun _ => rfl) ?_
    refine R_callD (i := .invokevirtual 81) (kd := 0) (y := M_X8_error) (as := [.ref 64, .int (-1000000001)]) (r := []) (L0 := [some (.ref 64), some (.int (-1000000001))]) (v := some (.int (-1000000001))) (h' := mk (up M 64 1 (M 64 1 + 1)) T) (pc' := 64) (st' := [.int (-1000000001)]) rfl rfl rfl rfl rfl rfl (m_error_1) ?_
    refine R_ret 1 (pcr := 64) (v := some (.int (-1000000001))) (h' := mk (up M 64 1 (M 64 1 + 1)) T) (fun _ => rfl) ?_
    exact ⟨rfl, rfl⟩
set_option maxHeartbeats 4000000 in
theorem op_set {ro : xRO} {M : xM} {T : Nat} (h : Rel M) {w v : Int32} : OpOK ro M_X7_set M_X8_set [some (.ref 3), some (.int w), some (.int v), none] [some (.ref 64), some (.int w), some (.int v), none] M T := by
  obtain ⟨P, H, h8, h6, pm, hm, px, hx, a, b1, b2, b3, b4, c2, c3, c4, c5⟩ := rel_all h
  by_cases w0 : w = 0
  · subst w0
    rcases of_in v (b := 40) (by omega) with ⟨n, hn, rfl⟩ | hv
    · refine OpOK.of (fun d => x_set_0 hn) (fun d => m_set_0 hn) (by (try simp only [up_rd]); grind) ?_
      have iv : iN (nI n) 40 := ⟨n, hn, rfl⟩
      refine h.now ?_ ?_ ?_ ?_ ?_ ?_ ?_ P H ?_ ?_ ?_ ?_ ?_
      · intro c x y; simp only [up_ne x, up_ne (show c ≠ 1 from fun q => y (by omega)), up_ne (show c ≠ 11 from fun q => y (by omega)), up_ne (show c ≠ 12 from fun q => y (by omega)), up_ne (show c ≠ 13 from fun q => y (by omega))]
      · intro j hj; simp only [up_rd]; grind
      · unfold hsA; simp only [up_rd]; grind
      · intro p j hp hj; have := b1 p j hp hj; simp only [up_rd]; grind
      · intro i hi; have := b2 i hi; have := c5 i hi; simp only [up_rd]; grind
      · intro i hi; have := b3 i hi; simp only [up_rd]; grind
      · intro i hi; have := b4 i hi; simp only [up_rd]; grind
      · unfold rwA; simp only [up_rd]; grind
      · unfold rwB; simp only [up_rd]; grind
      · intro p hp; have := c3 p hp; simp only [up_rd]; grind
      · intro p hp; obtain ⟨he, e1, e2⟩ := c4 p (by omega); exact ⟨he, by omega, by simp only [up_rd]; grind⟩
      · intro i hi; have := c5 i hi; have : iN 0 99999 := ⟨0, by omega, rfl⟩; simp only [up_rd]; grind
    · exact OpOK.of (fun d => x_set_b0 hv) (fun d => m_set_b0 (M := up M 60 1 (M 60 1 + 1)) hv) rfl (h.err 1 (by omega))
  by_cases w1 : w = 1
  · subst w1
    rcases of_in v (b := 23) (by omega) with ⟨n, hn, rfl⟩ | hv
    · refine OpOK.of (fun d => x_set_1 hn) (fun d => m_set_1 hn) (by (try simp only [up_rd]); grind) ?_
      have iv : iN (nI n) 23 := ⟨n, hn, rfl⟩
      refine h.now ?_ ?_ ?_ ?_ ?_ ?_ ?_ P H ?_ ?_ ?_ ?_ ?_
      · intro c x y; simp only [up_ne x, up_ne (show c ≠ 1 from fun q => y (by omega)), up_ne (show c ≠ 11 from fun q => y (by omega)), up_ne (show c ≠ 12 from fun q => y (by omega)), up_ne (show c ≠ 13 from fun q => y (by omega))]
      · intro j hj; simp only [up_rd]; grind
      · unfold hsA; simp only [up_rd]; grind
      · intro p j hp hj; have := b1 p j hp hj; simp only [up_rd]; grind
      · intro i hi; have := b2 i hi; have := c5 i hi; simp only [up_rd]; grind
      · intro i hi; have := b3 i hi; simp only [up_rd]; grind
      · intro i hi; have := b4 i hi; simp only [up_rd]; grind
      · unfold rwA; simp only [up_rd]; grind
      · unfold rwB; simp only [up_rd]; grind
      · intro p hp; have := c3 p hp; simp only [up_rd]; grind
      · intro p hp; obtain ⟨he, e1, e2⟩ := c4 p (by omega); exact ⟨he, by omega, by simp only [up_rd]; grind⟩
      · intro i hi; have := c5 i hi; have : iN 0 99999 := ⟨0, by omega, rfl⟩; simp only [up_rd]; grind
    · exact OpOK.of (fun d => x_set_b1 hv) (fun d => m_set_b1 (M := up M 60 1 (M 60 1 + 1)) hv) rfl (h.err 1 (by omega))
  by_cases w2 : w = 2
  · subst w2
    rcases of_in v (b := 1) (by omega) with ⟨n, hn, rfl⟩ | hv
    · refine OpOK.of (fun d => x_set_2 hn) (fun d => m_set_2 hn) (by (try simp only [up_rd]); grind) ?_
      have iv : iN (nI n) 1 := ⟨n, hn, rfl⟩
      refine h.now ?_ ?_ ?_ ?_ ?_ ?_ ?_ P H ?_ ?_ ?_ ?_ ?_
      · intro c x y; simp only [up_ne x, up_ne (show c ≠ 1 from fun q => y (by omega)), up_ne (show c ≠ 11 from fun q => y (by omega)), up_ne (show c ≠ 12 from fun q => y (by omega)), up_ne (show c ≠ 13 from fun q => y (by omega))]
      · intro j hj; simp only [up_rd]; grind
      · unfold hsA; simp only [up_rd]; grind
      · intro p j hp hj; have := b1 p j hp hj; simp only [up_rd]; grind
      · intro i hi; have := b2 i hi; have := c5 i hi; simp only [up_rd]; grind
      · intro i hi; have := b3 i hi; simp only [up_rd]; grind
      · intro i hi; have := b4 i hi; simp only [up_rd]; grind
      · unfold rwA; simp only [up_rd]; grind
      · unfold rwB; simp only [up_rd]; grind
      · intro p hp; have := c3 p hp; simp only [up_rd]; grind
      · intro p hp; obtain ⟨he, e1, e2⟩ := c4 p (by omega); exact ⟨he, by omega, by simp only [up_rd]; grind⟩
      · intro i hi; have := c5 i hi; have : iN 0 99999 := ⟨0, by omega, rfl⟩; simp only [up_rd]; grind
    · exact OpOK.of (fun d => x_set_b2 hv) (fun d => m_set_b2 (M := up M 60 1 (M 60 1 + 1)) hv) rfl (h.err 1 (by omega))
  exact OpOK.of (fun d => x_set_n w0 w1 w2) (fun d => m_set_n (M := up M 60 1 (M 60 1 + 1)) w0 w1 w2) rfl (h.err 1 (by omega))
