/-! OPERATIONS: as, paneIs, count -/
def isU (k w : Nat) : Int32 := ([1, 0, 0, 0, 0, 0, 0, 1, 1, 0, 0, 0, 0, 0, 1, 0, 1, 0, 0, 0, 0, 1, 0, 0, 1, 0, 0, 0, 1, 1, 0, 0, 1, 0, 0, 1, 0, 1, 0, 0, 1, 0, 1, 0, 0, 0, 0, 0, 1] : List Int32).getD (7 * k + w) 0
set_option maxRecDepth 100000 in
set_option maxHeartbeats 4000000 in
theorem c_isUnder {L : Nat} {xs : Nat → Int32} {d : Nat} {M : xM} {T : Nat} {k w : Nat} (hk : k < 7) (hw : w < 7) : Rn (roS L xs) (d + 1) M_X7_isUnder 0 [some (.int (nI k)), some (.int (nI w)), none, none] [] (mk M T) (fun r h => r = some (.int (isU k w)) ∧ h = mk M T) := by
  match k, w, hk, hw with
  | 0, 0, _, _ => exact R_ret 200 (v := some (.int (isU 0 0))) (h' := mk M T) (fun _ => rfl) ⟨rfl, rfl⟩
  | 0, 1, _, _ => exact R_ret 200 (v := some (.int (isU 0 1))) (h' := mk M T) (fun _ => rfl) ⟨rfl, rfl⟩
  | 0, 2, _, _ => exact R_ret 200 (v := some (.int (isU 0 2))) (h' := mk M T) (fun _ => rfl) ⟨rfl, rfl⟩
  | 0, 3, _, _ => exact R_ret 200 (v := some (.int (isU 0 3))) (h' := mk M T) (fun _ => rfl) ⟨rfl, rfl⟩
  | 0, 4, _, _ => exact R_ret 200 (v := some (.int (isU 0 4))) (h' := mk M T) (fun _ => rfl) ⟨rfl, rfl⟩
  | 0, 5, _, _ => exact R_ret 200 (v := some (.int (isU 0 5))) (h' := mk M T) (fun _ => rfl) ⟨rfl, rfl⟩
  | 0, 6, _, _ => exact R_ret 200 (v := some (.int (isU 0 6))) (h' := mk M T) (fun _ => rfl) ⟨rfl, rfl⟩
  | 1, 0, _, _ => exact R_ret 200 (v := some (.int (isU 1 0))) (h' := mk M T) (fun _ => rfl) ⟨rfl, rfl⟩
  | 1, 1, _, _ => exact R_ret 200 (v := some (.int (isU 1 1))) (h' := mk M T) (fun _ => rfl) ⟨rfl, rfl⟩
  | 1, 2, _, _ => exact R_ret 200 (v := some (.int (isU 1 2))) (h' := mk M T) (fun _ => rfl) ⟨rfl, rfl⟩
  | 1, 3, _, _ => exact R_ret 200 (v := some (.int (isU 1 3))) (h' := mk M T) (fun _ => rfl) ⟨rfl, rfl⟩
  | 1, 4, _, _ => exact R_ret 200 (v := some (.int (isU 1 4))) (h' := mk M T) (fun _ => rfl) ⟨rfl, rfl⟩
  | 1, 5, _, _ => exact R_ret 200 (v := some (.int (isU 1 5))) (h' := mk M T) (fun _ => rfl) ⟨rfl, rfl⟩
  | 1, 6, _, _ => exact R_ret 200 (v := some (.int (isU 1 6))) (h' := mk M T) (fun _ => rfl) ⟨rfl, rfl⟩
  | 2, 0, _, _ => exact R_ret 200 (v := some (.int (isU 2 0))) (h' := mk M T) (fun _ => rfl) ⟨rfl, rfl⟩
  | 2, 1, _, _ => exact R_ret 200 (v := some (.int (isU 2 1))) (h' := mk M T) (fun _ => rfl) ⟨rfl, rfl⟩
  | 2, 2, _, _ => exact R_ret 200 (v := some (.int (isU 2 2))) (h' := mk M T) (fun _ => rfl) ⟨rfl, rfl⟩
  | 2, 3, _, _ => exact R_ret 200 (v := some (.int (isU 2 3))) (h' := mk M T) (fun _ => rfl) ⟨rfl, rfl⟩
  | 2, 4, _, _ => exact R_ret 200 (v := some (.int (isU 2 4))) (h' := mk M T) (fun _ => rfl) ⟨rfl, rfl⟩
  | 2, 5, _, _ => exact R_ret 200 (v := some (.int (isU 2 5))) (h' := mk M T) (fun _ => rfl) ⟨rfl, rfl⟩
  | 2, 6, _, _ => exact R_ret 200 (v := some (.int (isU 2 6))) (h' := mk M T) (fun _ => rfl) ⟨rfl, rfl⟩
  | 3, 0, _, _ => exact R_ret 200 (v := some (.int (isU 3 0))) (h' := mk M T) (fun _ => rfl) ⟨rfl, rfl⟩
  | 3, 1, _, _ => exact R_ret 200 (v := some (.int (isU 3 1))) (h' := mk M T) (fun _ => rfl) ⟨rfl, rfl⟩
  | 3, 2, _, _ => exact R_ret 200 (v := some (.int (isU 3 2))) (h' := mk M T) (fun _ => rfl) ⟨rfl, rfl⟩
  | 3, 3, _, _ => exact R_ret 200 (v := some (.int (isU 3 3))) (h' := mk M T) (fun _ => rfl) ⟨rfl, rfl⟩
  | 3, 4, _, _ => exact R_ret 200 (v := some (.int (isU 3 4))) (h' := mk M T) (fun _ => rfl) ⟨rfl, rfl⟩
  | 3, 5, _, _ => exact R_ret 200 (v := some (.int (isU 3 5))) (h' := mk M T) (fun _ => rfl) ⟨rfl, rfl⟩
  | 3, 6, _, _ => exact R_ret 200 (v := some (.int (isU 3 6))) (h' := mk M T) (fun _ => rfl) ⟨rfl, rfl⟩
  | 4, 0, _, _ => exact R_ret 200 (v := some (.int (isU 4 0))) (h' := mk M T) (fun _ => rfl) ⟨rfl, rfl⟩
  | 4, 1, _, _ => exact R_ret 200 (v := some (.int (isU 4 1))) (h' := mk M T) (fun _ => rfl) ⟨rfl, rfl⟩
  | 4, 2, _, _ => exact R_ret 200 (v := some (.int (isU 4 2))) (h' := mk M T) (fun _ => rfl) ⟨rfl, rfl⟩
  | 4, 3, _, _ => exact R_ret 200 (v := some (.int (isU 4 3))) (h' := mk M T) (fun _ => rfl) ⟨rfl, rfl⟩
  | 4, 4, _, _ => exact R_ret 200 (v := some (.int (isU 4 4))) (h' := mk M T) (fun _ => rfl) ⟨rfl, rfl⟩
  | 4, 5, _, _ => exact R_ret 200 (v := some (.int (isU 4 5))) (h' := mk M T) (fun _ => rfl) ⟨rfl, rfl⟩
  | 4, 6, _, _ => exact R_ret 200 (v := some (.int (isU 4 6))) (h' := mk M T) (fun _ => rfl) ⟨rfl, rfl⟩
  | 5, 0, _, _ => exact R_ret 200 (v := some (.int (isU 5 0))) (h' := mk M T) (fun _ => rfl) ⟨rfl, rfl⟩
  | 5, 1, _, _ => exact R_ret 200 (v := some (.int (isU 5 1))) (h' := mk M T) (fun _ => rfl) ⟨rfl, rfl⟩
  | 5, 2, _, _ => exact R_ret 200 (v := some (.int (isU 5 2))) (h' := mk M T) (fun _ => rfl) ⟨rfl, rfl⟩
  | 5, 3, _, _ => exact R_ret 200 (v := some (.int (isU 5 3))) (h' := mk M T) (fun _ => rfl) ⟨rfl, rfl⟩
  | 5, 4, _, _ => exact R_ret 200 (v := some (.int (isU 5 4))) (h' := mk M T) (fun _ => rfl) ⟨rfl, rfl⟩
  | 5, 5, _, _ => exact R_ret 200 (v := some (.int (isU 5 5))) (h' := mk M T) (fun _ => rfl) ⟨rfl, rfl⟩
  | 5, 6, _, _ => exact R_ret 200 (v := some (.int (isU 5 6))) (h' := mk M T) (fun _ => rfl) ⟨rfl, rfl⟩
  | 6, 0, _, _ => exact R_ret 200 (v := some (.int (isU 6 0))) (h' := mk M T) (fun _ => rfl) ⟨rfl, rfl⟩
  | 6, 1, _, _ => exact R_ret 200 (v := some (.int (isU 6 1))) (h' := mk M T) (fun _ => rfl) ⟨rfl, rfl⟩
  | 6, 2, _, _ => exact R_ret 200 (v := some (.int (isU 6 2))) (h' := mk M T) (fun _ => rfl) ⟨rfl, rfl⟩
  | 6, 3, _, _ => exact R_ret 200 (v := some (.int (isU 6 3))) (h' := mk M T) (fun _ => rfl) ⟨rfl, rfl⟩
  | 6, 4, _, _ => exact R_ret 200 (v := some (.int (isU 6 4))) (h' := mk M T) (fun _ => rfl) ⟨rfl, rfl⟩
  | 6, 5, _, _ => exact R_ret 200 (v := some (.int (isU 6 5))) (h' := mk M T) (fun _ => rfl) ⟨rfl, rfl⟩
  | 6, 6, _, _ => exact R_ret 200 (v := some (.int (isU 6 6))) (h' := mk M T) (fun _ => rfl) ⟨rfl, rfl⟩

theorem isU_1 : ∀ k, k < 7 → ∀ w, w < 7 → ((w = 0 ∨ w = k ∨ (w = 1 ∧ k = 4) ∨ (w = 2 ∧ k = 5)) → isU k w = 1) ∧ (¬ (w = 0 ∨ w = k ∨ (w = 1 ∧ k = 4) ∨ (w = 2 ∧ k = 5)) → isU k w = 0) := by
  intro k hk w hw
  exact (by decide : ∀ k : Fin 7, ∀ w : Fin 7, ((w.val = 0 ∨ w.val = k.val ∨ (w.val = 1 ∧ k.val = 4) ∨ (w.val = 2 ∧ k.val = 5)) → isU k.val w.val = 1) ∧ (¬ (w.val = 0 ∨ w.val = k.val ∨ (w.val = 1 ∧ k.val = 4) ∨ (w.val = 2 ∧ k.val = 5)) → isU k.val w.val = 0)) ⟨k, hk⟩ ⟨w, hw⟩
set_option maxRecDepth 100000 in
set_option maxHeartbeats 4000000 in
theorem x_as_o {ro : xRO} {d : Nat} {M : xM} {T : Nat} {P : Nat} (hP : M 1 6 = nI P) (h8 : P ≤ 8) {i : Int32} (hi : ¬ (0 ≤ i ∧ i < nI P)) {v : Int32} : Rn ro (d + 90) M_X7_as 0 [some (.ref 3), some (.int i), some (.int v), none] [] (mk M T) (fun r h => r = some (.int (-1000000001)) ∧ h = mk (up M 60 1 (M 60 1 + 1)) T) := by
  refine R_go 3 (pc' := 5) (L' := [some (.ref 3), some (.int i), some (.int v), none]) (st' := [.int i, .ref 4]) (h' := mk M T) (fun _ => rfl) ?_
  refine R_callD (i := .invokevirtual 116) (kd := 0) (y := M_X0_paneAt) (as := [.ref 4, .int i]) (r := []) (L0 := [some (.ref 4), some (.int i)]) (v := some (.null)) (h' := mk M T) (pc' := 8) (st' := [.null]) rfl rfl rfl rfl rfl rfl (c_paneAt_out hP h8 hi) ?_
  refine R_go 5 (pc' := 25) (L' := [some (.ref 3), some (.int i), some (.int v), some (.null)]) (st' := [.int 1, .ref 3]) (h' := mk M T) (fun _ => rfl) ?_
  refine R_callD (i := .invokevirtual 75) (kd := 0) (y := M_X7_error) (as := [.ref 3, .int 1]) (r := []) (L0 := [some (.ref 3), some (.int 1)]) (v := some (.int (-1000000001))) (h' := mk (up M 60 1 (M 60 1 + 1)) T) (pc' := 28) (st' := [.int (-1000000001)]) rfl rfl rfl rfl rfl rfl (c_error_1) ?_
  refine R_ret 1 (pcr := 28) (v := some (.int (-1000000001))) (h' := mk (up M 60 1 (M 60 1 + 1)) T) (fun _ => rfl) ?_
  exact ⟨rfl, rfl⟩
set_option maxRecDepth 100000 in
set_option maxHeartbeats 4000000 in
theorem m_as_o {ro : xRO} {d : Nat} {M : xM} {T : Nat} {P : Nat} (hP : M 62 6 = nI P) (h8 : P ≤ 8) {i : Int32} (hi : ¬ (0 ≤ i ∧ i < nI P)) {v : Int32} : Rn ro (d + 90) M_X8_as 0 [some (.ref 64), some (.int i), some (.int v), none, none] [] (mk M T) (fun r h => r = some (.int (-1000000001)) ∧ h = mk (up M 64 1 (M 64 1 + 1)) T) := by
  refine R_go 2 (pc' := 2) (L' := [some (.ref 64), some (.int i), some (.int v), none, none]) (st' := [.int i, .ref 64]) (h' := mk M T) (fun _ => rfl) ?_
  refine R_call2 (i := .invokevirtual 92) (kd := 0) (y := M_X8_isPane) (as := [.ref 64, .int i]) (r := []) (L0 := [some (.ref 64), some (.int i)]) (v1 := some (.int 1)) (v2 := some (.int 0)) (h1' := mk M T) (h2' := mk M T) (pc' := 5) (st1 := [.int 1]) (st2 := [.int 0]) rfl rfl rfl rfl rfl rfl (m_isPane hP h8) (fun g1 => ?_) (fun g1 => ?_)
  · exact absurd g1 (hi)
  · refine R_go 3 (pc' := 21) (L' := [some (.ref 64), some (.int i), some (.int v), none, none]) (st' := [.int (-1000000001), .ref 64]) (h' := mk M T) (fun _ => rfl) ?_
    refine R_callD (i := .invokevirtual 81) (kd := 0) (y := M_X8_error) (as := [.ref 64, .int (-1000000001)]) (r := []) (L0 := [some (.ref 64), some (.int (-1000000001))]) (v := some (.int (-1000000001))) (h' := mk (up M 64 1 (M 64 1 + 1)) T) (pc' := 24) (st' := [.int (-1000000001)]) rfl rfl rfl rfl rfl rfl (m_error_1) ?_
    refine R_ret 1 (pcr := 24) (v := some (.int (-1000000001))) (h' := mk (up M 64 1 (M 64 1 + 1)) T) (fun _ => rfl) ?_
    exact ⟨rfl, rfl⟩
set_option maxRecDepth 100000 in
set_option maxHeartbeats 4000000 in
theorem x_as_b {ro : xRO} {d : Nat} {M : xM} {T : Nat} {P : Nat} (hP : M 1 6 = nI P) (h8 : P ≤ 8) {n : Nat} (hn : n < P) {v : Int32} (hv : ¬ (0 ≤ v ∧ v ≤ 6)) : Rn ro (d + 90) M_X7_as 0 [some (.ref 3), some (.int (nI n)), some (.int v), none] [] (mk M T) (fun r h => r = some (.int (-1000000001)) ∧ h = mk (up M 60 1 (M 60 1 + 1)) T) := by
  refine R_go 3 (pc' := 5) (L' := [some (.ref 3), some (.int (nI n)), some (.int v), none]) (st' := [.int (nI n), .ref 4]) (h' := mk M T) (fun _ => rfl) ?_
  refine R_callD (i := .invokevirtual 116) (kd := 0) (y := M_X0_paneAt) (as := [.ref 4, .int (nI n)]) (r := []) (L0 := [some (.ref 4), some (.int (nI n))]) (v := some (.ref (3 + n + 3))) (h' := mk M T) (pc' := 8) (st' := [.ref (3 + n + 3)]) rfl rfl rfl rfl rfl rfl (c_paneAt_in hP h8 hn) ?_
  refine R_go 6 (pc' := 17) (L' := [some (.ref 3), some (.int (nI n)), some (.int v), some (.ref (3 + n + 3))]) (st' := [.int 6, .int 0, .int v]) (h' := mk M T) (fun _ => rfl) ?_
  refine R_call2 (i := .invokestatic 78) (kd := 1) (y := M_X7_within) (as := [.int v, .int 0, .int 6]) (r := []) (L0 := [some (.int v), some (.int 0), some (.int 6)]) (v1 := some (.int 1)) (v2 := some (.int 0)) (h1' := mk M T) (h2' := mk M T) (pc' := 20) (st1 := [.int 1]) (st2 := [.int 0]) rfl rfl rfl rfl rfl rfl (c_within) (fun g1 => ?_) (fun g1 => ?_)
  · exact absurd g1 (hv)
  · refine R_go 3 (pc' := 25) (L' := [some (.ref 3), some (.int (nI n)), some (.int v), some (.ref (3 + n + 3))]) (st' := [.int 1, .ref 3]) (h' := mk M T) (fun _ => rfl) ?_
    refine R_callD (i := .invokevirtual 75) (kd := 0) (y := M_X7_error) (as := [.ref 3, .int 1]) (r := []) (L0 := [some (.ref 3), some (.int 1)]) (v := some (.int (-1000000001))) (h' := mk (up M 60 1 (M 60 1 + 1)) T) (pc' := 28) (st' := [.int (-1000000001)]) rfl rfl rfl rfl rfl rfl (c_error_1) ?_
    refine R_ret 1 (pcr := 28) (v := some (.int (-1000000001))) (h' := mk (up M 60 1 (M 60 1 + 1)) T) (fun _ => rfl) ?_
    exact ⟨rfl, rfl⟩
set_option maxRecDepth 100000 in
set_option maxHeartbeats 4000000 in
theorem m_as_b {ro : xRO} {d : Nat} {M : xM} {T : Nat} {P : Nat} (hP : M 62 6 = nI P) (h8 : P ≤ 8) {n : Nat} (hn : n < P) {v : Int32} (hv : ¬ (0 ≤ v ∧ v ≤ 6)) : Rn ro (d + 90) M_X8_as 0 [some (.ref 64), some (.int (nI n)), some (.int v), none, none] [] (mk M T) (fun r h => r = some (.int (-1000000001)) ∧ h = mk (up M 64 1 (M 64 1 + 1)) T) := by
  refine R_go 2 (pc' := 2) (L' := [some (.ref 64), some (.int (nI n)), some (.int v), none, none]) (st' := [.int (nI n), .ref 64]) (h' := mk M T) (fun _ => rfl) ?_
  refine R_call2 (i := .invokevirtual 92) (kd := 0) (y := M_X8_isPane) (as := [.ref 64, .int (nI n)]) (r := []) (L0 := [some (.ref 64), some (.int (nI n))]) (v1 := some (.int 1)) (v2 := some (.int 0)) (h1' := mk M T) (h2' := mk M T) (pc' := 5) (st1 := [.int 1]) (st2 := [.int 0]) rfl rfl rfl rfl rfl rfl (m_isPane hP h8) (fun g1 => ?_) (fun g1 => ?_)
  · refine R_go 4 (pc' := 12) (L' := [some (.ref 64), some (.int (nI n)), some (.int v), none, none]) (st' := [.int 6, .int 0, .int v]) (h' := mk M T) (fun _ => rfl) ?_
    refine R_call2 (i := .invokestatic 53) (kd := 1) (y := M_X8_in) (as := [.int v, .int 0, .int 6]) (r := []) (L0 := [some (.int v), some (.int 0), some (.int 6)]) (v1 := some (.int 1)) (v2 := some (.int 0)) (h1' := mk M T) (h2' := mk M T) (pc' := 15) (st1 := [.int 1]) (st2 := [.int 0]) rfl rfl rfl rfl rfl rfl (m_in) (fun g2 => ?_) (fun g2 => ?_)
    · exact absurd g2 (hv)
    · refine R_go 3 (pc' := 21) (L' := [some (.ref 64), some (.int (nI n)), some (.int v), none, none]) (st' := [.int (-1000000001), .ref 64]) (h' := mk M T) (fun _ => rfl) ?_
      refine R_callD (i := .invokevirtual 81) (kd := 0) (y := M_X8_error) (as := [.ref 64, .int (-1000000001)]) (r := []) (L0 := [some (.ref 64), some (.int (-1000000001))]) (v := some (.int (-1000000001))) (h' := mk (up M 64 1 (M 64 1 + 1)) T) (pc' := 24) (st' := [.int (-1000000001)]) rfl rfl rfl rfl rfl rfl (m_error_1) ?_
      refine R_ret 1 (pcr := 24) (v := some (.int (-1000000001))) (h' := mk (up M 64 1 (M 64 1 + 1)) T) (fun _ => rfl) ?_
      exact ⟨rfl, rfl⟩
  · exact absurd (⟨nI_pos' (by omega), nI_lt hn (by omega)⟩) g1
set_option maxRecDepth 100000 in
set_option maxHeartbeats 4000000 in
theorem x_as_1 {Ln : Nat} {xs : Nat → Int32} {d : Nat} {M : xM} {T : Nat} {P : Nat} (hP : M 1 6 = nI P) (h8 : P ≤ 8) {n : Nat} (hn : n < P) {k w : Nat} (hk : k < 7) (hw : w < 7) (hK : M (3 + n) 0 = nI k) (hU : isU k w = 1) : Rn (roS Ln xs) (d + 90) M_X7_as 0 [some (.ref 3), some (.int (nI n)), some (.int (nI w)), none] [] (mk M T) (fun r h => r = some (.int (M (3 + n) 1)) ∧ h = mk M T) := by
  refine R_go 3 (pc' := 5) (L' := [some (.ref 3), some (.int (nI n)), some (.int (nI w)), none]) (st' := [.int (nI n), .ref 4]) (h' := mk M T) (fun _ => rfl) ?_
  refine R_callD (i := .invokevirtual 116) (kd := 0) (y := M_X0_paneAt) (as := [.ref 4, .int (nI n)]) (r := []) (L0 := [some (.ref 4), some (.int (nI n))]) (v := some (.ref (3 + n + 3))) (h' := mk M T) (pc' := 8) (st' := [.ref (3 + n + 3)]) rfl rfl rfl rfl rfl rfl (c_paneAt_in hP h8 hn) ?_
  refine R_go 6 (pc' := 17) (L' := [some (.ref 3), some (.int (nI n)), some (.int (nI w)), some (.ref (3 + n + 3))]) (st' := [.int 6, .int 0, .int (nI w)]) (h' := mk M T) (fun _ => rfl) ?_
  refine R_call2 (i := .invokestatic 78) (kd := 1) (y := M_X7_within) (as := [.int (nI w), .int 0, .int 6]) (r := []) (L0 := [some (.int (nI w)), some (.int 0), some (.int 6)]) (v1 := some (.int 1)) (v2 := some (.int 0)) (h1' := mk M T) (h2' := mk M T) (pc' := 20) (st1 := [.int 1]) (st2 := [.int 0]) rfl rfl rfl rfl rfl rfl (c_within) (fun g1 => ?_) (fun g1 => ?_)
  · refine R_go 2 (pc' := 30) (L' := [some (.ref 3), some (.int (nI n)), some (.int (nI w)), some (.ref (3 + n + 3))]) (st' := [.ref (3 + n + 3)]) (h' := mk M T) (fun _ => rfl) ?_
    refine R_getI (i := 90) (j := 0) (c := 3 + n) (sh_pane (by omega)) rfl rfl rfl ?_
    refine R_top (y := nI k) (hK) ?_
    refine R_go 1 (pc' := 34) (L' := [some (.ref 3), some (.int (nI n)), some (.int (nI w)), some (.ref (3 + n + 3))]) (st' := [.int (nI w), .int (nI k)]) (h' := mk M T) (fun _ => rfl) ?_
    refine R_callD (i := .invokestatic 129) (kd := 1) (y := M_X7_isUnder) (as := [.int (nI k), .int (nI w)]) (r := []) (L0 := [some (.int (nI k)), some (.int (nI w)), none, none]) (v := some (.int (isU k w))) (h' := mk M T) (pc' := 37) (st' := [.int (isU k w)]) rfl rfl rfl rfl rfl rfl (c_isUnder (by omega) (by omega)) ?_
    refine R_top hU ?_
    refine R_go 2 (pc' := 41) (L' := [some (.ref 3), some (.int (nI n)), some (.int (nI w)), some (.ref (3 + n + 3))]) (st' := [.ref (3 + n + 3)]) (h' := mk M T) (fun _ => rfl) ?_
    refine R_getI (i := 95) (j := 1) (c := 3 + n) (sh_pane (by omega)) rfl rfl rfl ?_
    refine R_ret 2 (pcr := 52) (v := some (.int (M (3 + n) 1))) (h' := mk M T) (fun _ => rfl) ?_
    exact ⟨rfl, rfl⟩
  · exact absurd (nI_in2 (a := 0) (b := 6) (by omega) (by omega) (by omega)) g1
set_option maxRecDepth 100000 in
set_option maxHeartbeats 4000000 in
theorem x_as_0 {Ln : Nat} {xs : Nat → Int32} {d : Nat} {M : xM} {T : Nat} {P : Nat} (hP : M 1 6 = nI P) (h8 : P ≤ 8) {n : Nat} (hn : n < P) {k w : Nat} (hk : k < 7) (hw : w < 7) (hK : M (3 + n) 0 = nI k) (hU : isU k w = 0) : Rn (roS Ln xs) (d + 90) M_X7_as 0 [some (.ref 3), some (.int (nI n)), some (.int (nI w)), none] [] (mk M T) (fun r h => r = some (.int (-1000000005)) ∧ h = mk (up M 60 5 (M 60 5 + 1)) T) := by
  refine R_go 3 (pc' := 5) (L' := [some (.ref 3), some (.int (nI n)), some (.int (nI w)), none]) (st' := [.int (nI n), .ref 4]) (h' := mk M T) (fun _ => rfl) ?_
  refine R_callD (i := .invokevirtual 116) (kd := 0) (y := M_X0_paneAt) (as := [.ref 4, .int (nI n)]) (r := []) (L0 := [some (.ref 4), some (.int (nI n))]) (v := some (.ref (3 + n + 3))) (h' := mk M T) (pc' := 8) (st' := [.ref (3 + n + 3)]) rfl rfl rfl rfl rfl rfl (c_paneAt_in hP h8 hn) ?_
  refine R_go 6 (pc' := 17) (L' := [some (.ref 3), some (.int (nI n)), some (.int (nI w)), some (.ref (3 + n + 3))]) (st' := [.int 6, .int 0, .int (nI w)]) (h' := mk M T) (fun _ => rfl) ?_
  refine R_call2 (i := .invokestatic 78) (kd := 1) (y := M_X7_within) (as := [.int (nI w), .int 0, .int 6]) (r := []) (L0 := [some (.int (nI w)), some (.int 0), some (.int 6)]) (v1 := some (.int 1)) (v2 := some (.int 0)) (h1' := mk M T) (h2' := mk M T) (pc' := 20) (st1 := [.int 1]) (st2 := [.int 0]) rfl rfl rfl rfl rfl rfl (c_within) (fun g1 => ?_) (fun g1 => ?_)
  · refine R_go 2 (pc' := 30) (L' := [some (.ref 3), some (.int (nI n)), some (.int (nI w)), some (.ref (3 + n + 3))]) (st' := [.ref (3 + n + 3)]) (h' := mk M T) (fun _ => rfl) ?_
    refine R_getI (i := 90) (j := 0) (c := 3 + n) (sh_pane (by omega)) rfl rfl rfl ?_
    refine R_top (y := nI k) (hK) ?_
    refine R_go 1 (pc' := 34) (L' := [some (.ref 3), some (.int (nI n)), some (.int (nI w)), some (.ref (3 + n + 3))]) (st' := [.int (nI w), .int (nI k)]) (h' := mk M T) (fun _ => rfl) ?_
    refine R_callD (i := .invokestatic 129) (kd := 1) (y := M_X7_isUnder) (as := [.int (nI k), .int (nI w)]) (r := []) (L0 := [some (.int (nI k)), some (.int (nI w)), none, none]) (v := some (.int (isU k w))) (h' := mk M T) (pc' := 37) (st' := [.int (isU k w)]) rfl rfl rfl rfl rfl rfl (c_isUnder (by omega) (by omega)) ?_
    refine R_top hU ?_
    refine R_go 3 (pc' := 49) (L' := [some (.ref 3), some (.int (nI n)), some (.int (nI w)), some (.ref (3 + n + 3))]) (st' := [.int 5, .ref 3]) (h' := mk M T) (fun _ => rfl) ?_
    refine R_callD (i := .invokevirtual 75) (kd := 0) (y := M_X7_error) (as := [.ref 3, .int 5]) (r := []) (L0 := [some (.ref 3), some (.int 5)]) (v := some (.int (-1000000005))) (h' := mk (up M 60 5 (M 60 5 + 1)) T) (pc' := 52) (st' := [.int (-1000000005)]) rfl rfl rfl rfl rfl rfl (c_error_5) ?_
    refine R_ret 1 (pcr := 52) (v := some (.int (-1000000005))) (h' := mk (up M 60 5 (M 60 5 + 1)) T) (fun _ => rfl) ?_
    exact ⟨rfl, rfl⟩
  · exact absurd (nI_in2 (a := 0) (b := 6) (by omega) (by omega) (by omega)) g1
set_option maxRecDepth 100000 in
set_option maxHeartbeats 4000000 in
theorem m_as_1 {ro : xRO} {d : Nat} {M : xM} {T : Nat} {P : Nat} (hP : M 62 6 = nI P) (h8 : P ≤ 8) {n : Nat} (hn : n < P) {k w : Nat} (hk : k < 7) (hw : w < 7) (hK : M 62 (10 + 7 * n + 0) = nI k) (hU : (w = 0 ∨ w = k ∨ (w = 1 ∧ k = 4) ∨ (w = 2 ∧ k = 5))) : Rn ro (d + 90) M_X8_as 0 [some (.ref 64), some (.int (nI n)), some (.int (nI w)), none, none] [] (mk M T) (fun r h => r = some (.int (M 62 (10 + 7 * n + 1))) ∧ h = mk M T) := by
  refine R_go 2 (pc' := 2) (L' := [some (.ref 64), some (.int (nI n)), some (.int (nI w)), none, none]) (st' := [.int (nI n), .ref 64]) (h' := mk M T) (fun _ => rfl) ?_
  refine R_call2 (i := .invokevirtual 92) (kd := 0) (y := M_X8_isPane) (as := [.ref 64, .int (nI n)]) (r := []) (L0 := [some (.ref 64), some (.int (nI n))]) (v1 := some (.int 1)) (v2 := some (.int 0)) (h1' := mk M T) (h2' := mk M T) (pc' := 5) (st1 := [.int 1]) (st2 := [.int 0]) rfl rfl rfl rfl rfl rfl (m_isPane hP h8) (fun g1 => ?_) (fun g1 => ?_)
  · refine R_go 4 (pc' := 12) (L' := [some (.ref 64), some (.int (nI n)), some (.int (nI w)), none, none]) (st' := [.int 6, .int 0, .int (nI w)]) (h' := mk M T) (fun _ => rfl) ?_
    refine R_call2 (i := .invokestatic 53) (kd := 1) (y := M_X8_in) (as := [.int (nI w), .int 0, .int 6]) (r := []) (L0 := [some (.int (nI w)), some (.int 0), some (.int 6)]) (v1 := some (.int 1)) (v2 := some (.int 0)) (h1' := mk M T) (h2' := mk M T) (pc' := 15) (st1 := [.int 1]) (st2 := [.int 0]) rfl rfl rfl rfl rfl rfl (m_in) (fun g2 => ?_) (fun g2 => ?_)
    · refine R_go 4 (pc' := 28) (L' := [some (.ref 64), some (.int (nI n)), some (.int (nI w)), none, none]) (st' := [.int 0, .int (nI n), .ref 64]) (h' := mk M T) (fun _ => rfl) ?_
      refine R_callD (i := .invokevirtual 57) (kd := 0) (y := M_X8_of) (as := [.ref 64, .int (nI n), .int 0]) (r := []) (L0 := [some (.ref 64), some (.int (nI n)), some (.int 0)]) (v := some (.int (M 62 (10 + 7 * n + 0)))) (h' := mk M T) (pc' := 31) (st' := [.int (M 62 (10 + 7 * n + 0))]) rfl rfl rfl rfl rfl rfl (m_of (p := n) (j := 0) (by omega) (by omega)) ?_
      refine R_top (y := nI k) hK ?_
      refine R_if 3 (c := (nI w) = 0) (t := 61) (f := 36) (L' := [some (.ref 64), some (.int (nI n)), some (.int (nI w)), some (.int (nI k)), none]) (st' := []) (h' := mk M T) (fun _ => rfl) (fun g3 => ?_) (fun g3 => ?_)
      · replace g3 : w = 0 := (nI_eq (a := w) (b := 0) (by omega) (by omega)).mp g3
        refine R_go 8 (pc' := 76) (L' := [some (.ref 64), some (.int (nI n)), some (.int (nI w)), some (.int (nI k)), some (.int 1)]) (st' := [.int 1, .int (nI n), .ref 64]) (h' := mk M T) (fun _ => rfl) ?_
        refine R_callD (i := .invokevirtual 57) (kd := 0) (y := M_X8_of) (as := [.ref 64, .int (nI n), .int 1]) (r := []) (L0 := [some (.ref 64), some (.int (nI n)), some (.int 1)]) (v := some (.int (M 62 (10 + 7 * n + 1)))) (h' := mk M T) (pc' := 79) (st' := [.int (M 62 (10 + 7 * n + 1))]) rfl rfl rfl rfl rfl rfl (m_of (p := n) (j := 1) (by omega) (by omega)) ?_
        refine R_ret 2 (pcr := 88) (v := some (.int (M 62 (10 + 7 * n + 1)))) (h' := mk M T) (fun _ => rfl) ?_
        exact ⟨rfl, rfl⟩
      · replace g3 : ¬ w = 0 := fun q => g3 ((nI_eq (a := w) (b := 0) (by omega) (by omega)).mpr q)
        refine R_if 3 (c := (nI w) = (nI k)) (t := 61) (f := 41) (L' := [some (.ref 64), some (.int (nI n)), some (.int (nI w)), some (.int (nI k)), none]) (st' := []) (h' := mk M T) (fun _ => rfl) (fun g4 => ?_) (fun g4 => ?_)
        · replace g4 : w = k := (nI_eq (a := w) (b := k) (by omega) (by omega)).mp g4
          refine R_go 8 (pc' := 76) (L' := [some (.ref 64), some (.int (nI n)), some (.int (nI w)), some (.int (nI k)), some (.int 1)]) (st' := [.int 1, .int (nI n), .ref 64]) (h' := mk M T) (fun _ => rfl) ?_
          refine R_callD (i := .invokevirtual 57) (kd := 0) (y := M_X8_of) (as := [.ref 64, .int (nI n), .int 1]) (r := []) (L0 := [some (.ref 64), some (.int (nI n)), some (.int 1)]) (v := some (.int (M 62 (10 + 7 * n + 1)))) (h' := mk M T) (pc' := 79) (st' := [.int (M 62 (10 + 7 * n + 1))]) rfl rfl rfl rfl rfl rfl (m_of (p := n) (j := 1) (by omega) (by omega)) ?_
          refine R_ret 2 (pcr := 88) (v := some (.int (M 62 (10 + 7 * n + 1)))) (h' := mk M T) (fun _ => rfl) ?_
          exact ⟨rfl, rfl⟩
        · replace g4 : ¬ w = k := fun q => g4 ((nI_eq (a := w) (b := k) (by omega) (by omega)).mpr q)
          refine R_ifn 3 (c := (nI w) = 1) (t := 51) (f := 46) (L' := [some (.ref 64), some (.int (nI n)), some (.int (nI w)), some (.int (nI k)), none]) (st' := []) (h' := mk M T) (fun _ => rfl) (fun g5 => ?_) (fun g5 => ?_)
          · replace g5 : ¬ w = 1 := fun q => g5 ((nI_eq (a := w) (b := 1) (by omega) (by omega)).mpr q)
            refine R_ifn 3 (c := (nI w) = 2) (t := 65) (f := 56) (L' := [some (.ref 64), some (.int (nI n)), some (.int (nI w)), some (.int (nI k)), none]) (st' := []) (h' := mk M T) (fun _ => rfl) (fun g6 => ?_) (fun g6 => ?_)
            · replace g6 : ¬ w = 2 := fun q => g6 ((nI_eq (a := w) (b := 2) (by omega) (by omega)).mpr q)
              refine R_go 6 (pc' := 85) (L' := [some (.ref 64), some (.int (nI n)), some (.int (nI w)), some (.int (nI k)), some (.int 0)]) (st' := [.int (-1000000005), .ref 64]) (h' := mk M T) (fun _ => rfl) ?_
              refine R_callD (i := .invokevirtual 81) (kd := 0) (y := M_X8_error) (as := [.ref 64, .int (-1000000005)]) (r := []) (L0 := [some (.ref 64), some (.int (-1000000005))]) (v := some (.int (-1000000005))) (h' := mk (up M 64 5 (M 64 5 + 1)) T) (pc' := 88) (st' := [.int (-1000000005)]) rfl rfl rfl rfl rfl rfl (m_error_5) ?_
              refine R_ret 1 (pcr := 88) (v := some (.int (-1000000005))) (h' := mk (up M 64 5 (M 64 5 + 1)) T) (fun _ => rfl) ?_
              exfalso; omega
            · replace g6 : w = 2 := (nI_eq (a := w) (b := 2) (by omega) (by omega)).mp g6
              refine R_ifn 3 (c := (nI k) = 5) (t := 65) (f := 61) (L' := [some (.ref 64), some (.int (nI n)), some (.int (nI w)), some (.int (nI k)), none]) (st' := []) (h' := mk M T) (fun _ => rfl) (fun g7 => ?_) (fun g7 => ?_)
              · replace g7 : ¬ k = 5 := fun q => g7 ((nI_eq (a := k) (b := 5) (by omega) (by omega)).mpr q)
                refine R_go 6 (pc' := 85) (L' := [some (.ref 64), some (.int (nI n)), some (.int (nI w)), some (.int (nI k)), some (.int 0)]) (st' := [.int (-1000000005), .ref 64]) (h' := mk M T) (fun _ => rfl) ?_
                refine R_callD (i := .invokevirtual 81) (kd := 0) (y := M_X8_error) (as := [.ref 64, .int (-1000000005)]) (r := []) (L0 := [some (.ref 64), some (.int (-1000000005))]) (v := some (.int (-1000000005))) (h' := mk (up M 64 5 (M 64 5 + 1)) T) (pc' := 88) (st' := [.int (-1000000005)]) rfl rfl rfl rfl rfl rfl (m_error_5) ?_
                refine R_ret 1 (pcr := 88) (v := some (.int (-1000000005))) (h' := mk (up M 64 5 (M 64 5 + 1)) T) (fun _ => rfl) ?_
                exfalso; omega
              · replace g7 : k = 5 := (nI_eq (a := k) (b := 5) (by omega) (by omega)).mp g7
                refine R_go 8 (pc' := 76) (L' := [some (.ref 64), some (.int (nI n)), some (.int (nI w)), some (.int (nI k)), some (.int 1)]) (st' := [.int 1, .int (nI n), .ref 64]) (h' := mk M T) (fun _ => rfl) ?_
                refine R_callD (i := .invokevirtual 57) (kd := 0) (y := M_X8_of) (as := [.ref 64, .int (nI n), .int 1]) (r := []) (L0 := [some (.ref 64), some (.int (nI n)), some (.int 1)]) (v := some (.int (M 62 (10 + 7 * n + 1)))) (h' := mk M T) (pc' := 79) (st' := [.int (M 62 (10 + 7 * n + 1))]) rfl rfl rfl rfl rfl rfl (m_of (p := n) (j := 1) (by omega) (by omega)) ?_
                refine R_ret 2 (pcr := 88) (v := some (.int (M 62 (10 + 7 * n + 1)))) (h' := mk M T) (fun _ => rfl) ?_
                exact ⟨rfl, rfl⟩
          · replace g5 : w = 1 := (nI_eq (a := w) (b := 1) (by omega) (by omega)).mp g5
            refine R_if 3 (c := (nI k) = 4) (t := 61) (f := 51) (L' := [some (.ref 64), some (.int (nI n)), some (.int (nI w)), some (.int (nI k)), none]) (st' := []) (h' := mk M T) (fun _ => rfl) (fun g8 => ?_) (fun g8 => ?_)
            · replace g8 : k = 4 := (nI_eq (a := k) (b := 4) (by omega) (by omega)).mp g8
              refine R_go 8 (pc' := 76) (L' := [some (.ref 64), some (.int (nI n)), some (.int (nI w)), some (.int (nI k)), some (.int 1)]) (st' := [.int 1, .int (nI n), .ref 64]) (h' := mk M T) (fun _ => rfl) ?_
              refine R_callD (i := .invokevirtual 57) (kd := 0) (y := M_X8_of) (as := [.ref 64, .int (nI n), .int 1]) (r := []) (L0 := [some (.ref 64), some (.int (nI n)), some (.int 1)]) (v := some (.int (M 62 (10 + 7 * n + 1)))) (h' := mk M T) (pc' := 79) (st' := [.int (M 62 (10 + 7 * n + 1))]) rfl rfl rfl rfl rfl rfl (m_of (p := n) (j := 1) (by omega) (by omega)) ?_
              refine R_ret 2 (pcr := 88) (v := some (.int (M 62 (10 + 7 * n + 1)))) (h' := mk M T) (fun _ => rfl) ?_
              exact ⟨rfl, rfl⟩
            · replace g8 : ¬ k = 4 := fun q => g8 ((nI_eq (a := k) (b := 4) (by omega) (by omega)).mpr q)
              refine R_ifn 3 (c := (nI w) = 2) (t := 65) (f := 56) (L' := [some (.ref 64), some (.int (nI n)), some (.int (nI w)), some (.int (nI k)), none]) (st' := []) (h' := mk M T) (fun _ => rfl) (fun g9 => ?_) (fun g9 => ?_)
              · replace g9 : ¬ w = 2 := fun q => g9 ((nI_eq (a := w) (b := 2) (by omega) (by omega)).mpr q)
                refine R_go 6 (pc' := 85) (L' := [some (.ref 64), some (.int (nI n)), some (.int (nI w)), some (.int (nI k)), some (.int 0)]) (st' := [.int (-1000000005), .ref 64]) (h' := mk M T) (fun _ => rfl) ?_
                refine R_callD (i := .invokevirtual 81) (kd := 0) (y := M_X8_error) (as := [.ref 64, .int (-1000000005)]) (r := []) (L0 := [some (.ref 64), some (.int (-1000000005))]) (v := some (.int (-1000000005))) (h' := mk (up M 64 5 (M 64 5 + 1)) T) (pc' := 88) (st' := [.int (-1000000005)]) rfl rfl rfl rfl rfl rfl (m_error_5) ?_
                refine R_ret 1 (pcr := 88) (v := some (.int (-1000000005))) (h' := mk (up M 64 5 (M 64 5 + 1)) T) (fun _ => rfl) ?_
                exfalso; omega
              · replace g9 : w = 2 := (nI_eq (a := w) (b := 2) (by omega) (by omega)).mp g9
                refine R_ifn 3 (c := (nI k) = 5) (t := 65) (f := 61) (L' := [some (.ref 64), some (.int (nI n)), some (.int (nI w)), some (.int (nI k)), none]) (st' := []) (h' := mk M T) (fun _ => rfl) (fun g10 => ?_) (fun g10 => ?_)
                · replace g10 : ¬ k = 5 := fun q => g10 ((nI_eq (a := k) (b := 5) (by omega) (by omega)).mpr q)
                  refine R_go 6 (pc' := 85) (L' := [some (.ref 64), some (.int (nI n)), some (.int (nI w)), some (.int (nI k)), some (.int 0)]) (st' := [.int (-1000000005), .ref 64]) (h' := mk M T) (fun _ => rfl) ?_
                  refine R_callD (i := .invokevirtual 81) (kd := 0) (y := M_X8_error) (as := [.ref 64, .int (-1000000005)]) (r := []) (L0 := [some (.ref 64), some (.int (-1000000005))]) (v := some (.int (-1000000005))) (h' := mk (up M 64 5 (M 64 5 + 1)) T) (pc' := 88) (st' := [.int (-1000000005)]) rfl rfl rfl rfl rfl rfl (m_error_5) ?_
                  refine R_ret 1 (pcr := 88) (v := some (.int (-1000000005))) (h' := mk (up M 64 5 (M 64 5 + 1)) T) (fun _ => rfl) ?_
                  exfalso; omega
                · replace g10 : k = 5 := (nI_eq (a := k) (b := 5) (by omega) (by omega)).mp g10
                  refine R_go 8 (pc' := 76) (L' := [some (.ref 64), some (.int (nI n)), some (.int (nI w)), some (.int (nI k)), some (.int 1)]) (st' := [.int 1, .int (nI n), .ref 64]) (h' := mk M T) (fun _ => rfl) ?_
                  refine R_callD (i := .invokevirtual 57) (kd := 0) (y := M_X8_of) (as := [.ref 64, .int (nI n), .int 1]) (r := []) (L0 := [some (.ref 64), some (.int (nI n)), some (.int 1)]) (v := some (.int (M 62 (10 + 7 * n + 1)))) (h' := mk M T) (pc' := 79) (st' := [.int (M 62 (10 + 7 * n + 1))]) rfl rfl rfl rfl rfl rfl (m_of (p := n) (j := 1) (by omega) (by omega)) ?_
                  refine R_ret 2 (pcr := 88) (v := some (.int (M 62 (10 + 7 * n + 1)))) (h' := mk M T) (fun _ => rfl) ?_
                  exact ⟨rfl, rfl⟩
    · exact absurd (nI_in2 (a := 0) (b := 6) (by omega) (by omega) (by omega)) g2
  · exact absurd (⟨nI_pos' (by omega), nI_lt hn (by omega)⟩) g1
set_option maxRecDepth 100000 in
set_option maxHeartbeats 4000000 in
theorem m_as_0 {ro : xRO} {d : Nat} {M : xM} {T : Nat} {P : Nat} (hP : M 62 6 = nI P) (h8 : P ≤ 8) {n : Nat} (hn : n < P) {k w : Nat} (hk : k < 7) (hw : w < 7) (hK : M 62 (10 + 7 * n + 0) = nI k) (hU : ¬ (w = 0 ∨ w = k ∨ (w = 1 ∧ k = 4) ∨ (w = 2 ∧ k = 5))) : Rn ro (d + 90) M_X8_as 0 [some (.ref 64), some (.int (nI n)), some (.int (nI w)), none, none] [] (mk M T) (fun r h => r = some (.int (-1000000005)) ∧ h = mk (up M 64 5 (M 64 5 + 1)) T) := by
  refine R_go 2 (pc' := 2) (L' := [some (.ref 64), some (.int (nI n)), some (.int (nI w)), none, none]) (st' := [.int (nI n), .ref 64]) (h' := mk M T) (fun _ => rfl) ?_
  refine R_call2 (i := .invokevirtual 92) (kd := 0) (y := M_X8_isPane) (as := [.ref 64, .int (nI n)]) (r := []) (L0 := [some (.ref 64), some (.int (nI n))]) (v1 := some (.int 1)) (v2 := some (.int 0)) (h1' := mk M T) (h2' := mk M T) (pc' := 5) (st1 := [.int 1]) (st2 := [.int 0]) rfl rfl rfl rfl rfl rfl (m_isPane hP h8) (fun g1 => ?_) (fun g1 => ?_)
  · refine R_go 4 (pc' := 12) (L' := [some (.ref 64), some (.int (nI n)), some (.int (nI w)), none, none]) (st' := [.int 6, .int 0, .int (nI w)]) (h' := mk M T) (fun _ => rfl) ?_
    refine R_call2 (i := .invokestatic 53) (kd := 1) (y := M_X8_in) (as := [.int (nI w), .int 0, .int 6]) (r := []) (L0 := [some (.int (nI w)), some (.int 0), some (.int 6)]) (v1 := some (.int 1)) (v2 := some (.int 0)) (h1' := mk M T) (h2' := mk M T) (pc' := 15) (st1 := [.int 1]) (st2 := [.int 0]) rfl rfl rfl rfl rfl rfl (m_in) (fun g2 => ?_) (fun g2 => ?_)
    · refine R_go 4 (pc' := 28) (L' := [some (.ref 64), some (.int (nI n)), some (.int (nI w)), none, none]) (st' := [.int 0, .int (nI n), .ref 64]) (h' := mk M T) (fun _ => rfl) ?_
      refine R_callD (i := .invokevirtual 57) (kd := 0) (y := M_X8_of) (as := [.ref 64, .int (nI n), .int 0]) (r := []) (L0 := [some (.ref 64), some (.int (nI n)), some (.int 0)]) (v := some (.int (M 62 (10 + 7 * n + 0)))) (h' := mk M T) (pc' := 31) (st' := [.int (M 62 (10 + 7 * n + 0))]) rfl rfl rfl rfl rfl rfl (m_of (p := n) (j := 0) (by omega) (by omega)) ?_
      refine R_top (y := nI k) hK ?_
      refine R_if 3 (c := (nI w) = 0) (t := 61) (f := 36) (L' := [some (.ref 64), some (.int (nI n)), some (.int (nI w)), some (.int (nI k)), none]) (st' := []) (h' := mk M T) (fun _ => rfl) (fun g3 => ?_) (fun g3 => ?_)
      · replace g3 : w = 0 := (nI_eq (a := w) (b := 0) (by omega) (by omega)).mp g3
        refine R_go 8 (pc' := 76) (L' := [some (.ref 64), some (.int (nI n)), some (.int (nI w)), some (.int (nI k)), some (.int 1)]) (st' := [.int 1, .int (nI n), .ref 64]) (h' := mk M T) (fun _ => rfl) ?_
        refine R_callD (i := .invokevirtual 57) (kd := 0) (y := M_X8_of) (as := [.ref 64, .int (nI n), .int 1]) (r := []) (L0 := [some (.ref 64), some (.int (nI n)), some (.int 1)]) (v := some (.int (M 62 (10 + 7 * n + 1)))) (h' := mk M T) (pc' := 79) (st' := [.int (M 62 (10 + 7 * n + 1))]) rfl rfl rfl rfl rfl rfl (m_of (p := n) (j := 1) (by omega) (by omega)) ?_
        refine R_ret 2 (pcr := 88) (v := some (.int (M 62 (10 + 7 * n + 1)))) (h' := mk M T) (fun _ => rfl) ?_
        exfalso; omega
      · replace g3 : ¬ w = 0 := fun q => g3 ((nI_eq (a := w) (b := 0) (by omega) (by omega)).mpr q)
        refine R_if 3 (c := (nI w) = (nI k)) (t := 61) (f := 41) (L' := [some (.ref 64), some (.int (nI n)), some (.int (nI w)), some (.int (nI k)), none]) (st' := []) (h' := mk M T) (fun _ => rfl) (fun g4 => ?_) (fun g4 => ?_)
        · replace g4 : w = k := (nI_eq (a := w) (b := k) (by omega) (by omega)).mp g4
          refine R_go 8 (pc' := 76) (L' := [some (.ref 64), some (.int (nI n)), some (.int (nI w)), some (.int (nI k)), some (.int 1)]) (st' := [.int 1, .int (nI n), .ref 64]) (h' := mk M T) (fun _ => rfl) ?_
          refine R_callD (i := .invokevirtual 57) (kd := 0) (y := M_X8_of) (as := [.ref 64, .int (nI n), .int 1]) (r := []) (L0 := [some (.ref 64), some (.int (nI n)), some (.int 1)]) (v := some (.int (M 62 (10 + 7 * n + 1)))) (h' := mk M T) (pc' := 79) (st' := [.int (M 62 (10 + 7 * n + 1))]) rfl rfl rfl rfl rfl rfl (m_of (p := n) (j := 1) (by omega) (by omega)) ?_
          refine R_ret 2 (pcr := 88) (v := some (.int (M 62 (10 + 7 * n + 1)))) (h' := mk M T) (fun _ => rfl) ?_
          exfalso; omega
        · replace g4 : ¬ w = k := fun q => g4 ((nI_eq (a := w) (b := k) (by omega) (by omega)).mpr q)
          refine R_ifn 3 (c := (nI w) = 1) (t := 51) (f := 46) (L' := [some (.ref 64), some (.int (nI n)), some (.int (nI w)), some (.int (nI k)), none]) (st' := []) (h' := mk M T) (fun _ => rfl) (fun g5 => ?_) (fun g5 => ?_)
          · replace g5 : ¬ w = 1 := fun q => g5 ((nI_eq (a := w) (b := 1) (by omega) (by omega)).mpr q)
            refine R_ifn 3 (c := (nI w) = 2) (t := 65) (f := 56) (L' := [some (.ref 64), some (.int (nI n)), some (.int (nI w)), some (.int (nI k)), none]) (st' := []) (h' := mk M T) (fun _ => rfl) (fun g6 => ?_) (fun g6 => ?_)
            · replace g6 : ¬ w = 2 := fun q => g6 ((nI_eq (a := w) (b := 2) (by omega) (by omega)).mpr q)
              refine R_go 6 (pc' := 85) (L' := [some (.ref 64), some (.int (nI n)), some (.int (nI w)), some (.int (nI k)), some (.int 0)]) (st' := [.int (-1000000005), .ref 64]) (h' := mk M T) (fun _ => rfl) ?_
              refine R_callD (i := .invokevirtual 81) (kd := 0) (y := M_X8_error) (as := [.ref 64, .int (-1000000005)]) (r := []) (L0 := [some (.ref 64), some (.int (-1000000005))]) (v := some (.int (-1000000005))) (h' := mk (up M 64 5 (M 64 5 + 1)) T) (pc' := 88) (st' := [.int (-1000000005)]) rfl rfl rfl rfl rfl rfl (m_error_5) ?_
              refine R_ret 1 (pcr := 88) (v := some (.int (-1000000005))) (h' := mk (up M 64 5 (M 64 5 + 1)) T) (fun _ => rfl) ?_
              exact ⟨rfl, rfl⟩
            · replace g6 : w = 2 := (nI_eq (a := w) (b := 2) (by omega) (by omega)).mp g6
              refine R_ifn 3 (c := (nI k) = 5) (t := 65) (f := 61) (L' := [some (.ref 64), some (.int (nI n)), some (.int (nI w)), some (.int (nI k)), none]) (st' := []) (h' := mk M T) (fun _ => rfl) (fun g7 => ?_) (fun g7 => ?_)
              · replace g7 : ¬ k = 5 := fun q => g7 ((nI_eq (a := k) (b := 5) (by omega) (by omega)).mpr q)
                refine R_go 6 (pc' := 85) (L' := [some (.ref 64), some (.int (nI n)), some (.int (nI w)), some (.int (nI k)), some (.int 0)]) (st' := [.int (-1000000005), .ref 64]) (h' := mk M T) (fun _ => rfl) ?_
                refine R_callD (i := .invokevirtual 81) (kd := 0) (y := M_X8_error) (as := [.ref 64, .int (-1000000005)]) (r := []) (L0 := [some (.ref 64), some (.int (-1000000005))]) (v := some (.int (-1000000005))) (h' := mk (up M 64 5 (M 64 5 + 1)) T) (pc' := 88) (st' := [.int (-1000000005)]) rfl rfl rfl rfl rfl rfl (m_error_5) ?_
                refine R_ret 1 (pcr := 88) (v := some (.int (-1000000005))) (h' := mk (up M 64 5 (M 64 5 + 1)) T) (fun _ => rfl) ?_
                exact ⟨rfl, rfl⟩
              · replace g7 : k = 5 := (nI_eq (a := k) (b := 5) (by omega) (by omega)).mp g7
                refine R_go 8 (pc' := 76) (L' := [some (.ref 64), some (.int (nI n)), some (.int (nI w)), some (.int (nI k)), some (.int 1)]) (st' := [.int 1, .int (nI n), .ref 64]) (h' := mk M T) (fun _ => rfl) ?_
                refine R_callD (i := .invokevirtual 57) (kd := 0) (y := M_X8_of) (as := [.ref 64, .int (nI n), .int 1]) (r := []) (L0 := [some (.ref 64), some (.int (nI n)), some (.int 1)]) (v := some (.int (M 62 (10 + 7 * n + 1)))) (h' := mk M T) (pc' := 79) (st' := [.int (M 62 (10 + 7 * n + 1))]) rfl rfl rfl rfl rfl rfl (m_of (p := n) (j := 1) (by omega) (by omega)) ?_
                refine R_ret 2 (pcr := 88) (v := some (.int (M 62 (10 + 7 * n + 1)))) (h' := mk M T) (fun _ => rfl) ?_
                exfalso; omega
          · replace g5 : w = 1 := (nI_eq (a := w) (b := 1) (by omega) (by omega)).mp g5
            refine R_if 3 (c := (nI k) = 4) (t := 61) (f := 51) (L' := [some (.ref 64), some (.int (nI n)), some (.int (nI w)), some (.int (nI k)), none]) (st' := []) (h' := mk M T) (fun _ => rfl) (fun g8 => ?_) (fun g8 => ?_)
            · replace g8 : k = 4 := (nI_eq (a := k) (b := 4) (by omega) (by omega)).mp g8
              refine R_go 8 (pc' := 76) (L' := [some (.ref 64), some (.int (nI n)), some (.int (nI w)), some (.int (nI k)), some (.int 1)]) (st' := [.int 1, .int (nI n), .ref 64]) (h' := mk M T) (fun _ => rfl) ?_
              refine R_callD (i := .invokevirtual 57) (kd := 0) (y := M_X8_of) (as := [.ref 64, .int (nI n), .int 1]) (r := []) (L0 := [some (.ref 64), some (.int (nI n)), some (.int 1)]) (v := some (.int (M 62 (10 + 7 * n + 1)))) (h' := mk M T) (pc' := 79) (st' := [.int (M 62 (10 + 7 * n + 1))]) rfl rfl rfl rfl rfl rfl (m_of (p := n) (j := 1) (by omega) (by omega)) ?_
              refine R_ret 2 (pcr := 88) (v := some (.int (M 62 (10 + 7 * n + 1)))) (h' := mk M T) (fun _ => rfl) ?_
              exfalso; omega
            · replace g8 : ¬ k = 4 := fun q => g8 ((nI_eq (a := k) (b := 4) (by omega) (by omega)).mpr q)
              refine R_ifn 3 (c := (nI w) = 2) (t := 65) (f := 56) (L' := [some (.ref 64), some (.int (nI n)), some (.int (nI w)), some (.int (nI k)), none]) (st' := []) (h' := mk M T) (fun _ => rfl) (fun g9 => ?_) (fun g9 => ?_)
              · replace g9 : ¬ w = 2 := fun q => g9 ((nI_eq (a := w) (b := 2) (by omega) (by omega)).mpr q)
                refine R_go 6 (pc' := 85) (L' := [some (.ref 64), some (.int (nI n)), some (.int (nI w)), some (.int (nI k)), some (.int 0)]) (st' := [.int (-1000000005), .ref 64]) (h' := mk M T) (fun _ => rfl) ?_
                refine R_callD (i := .invokevirtual 81) (kd := 0) (y := M_X8_error) (as := [.ref 64, .int (-1000000005)]) (r := []) (L0 := [some (.ref 64), some (.int (-1000000005))]) (v := some (.int (-1000000005))) (h' := mk (up M 64 5 (M 64 5 + 1)) T) (pc' := 88) (st' := [.int (-1000000005)]) rfl rfl rfl rfl rfl rfl (m_error_5) ?_
                refine R_ret 1 (pcr := 88) (v := some (.int (-1000000005))) (h' := mk (up M 64 5 (M 64 5 + 1)) T) (fun _ => rfl) ?_
                exact ⟨rfl, rfl⟩
              · replace g9 : w = 2 := (nI_eq (a := w) (b := 2) (by omega) (by omega)).mp g9
                refine R_ifn 3 (c := (nI k) = 5) (t := 65) (f := 61) (L' := [some (.ref 64), some (.int (nI n)), some (.int (nI w)), some (.int (nI k)), none]) (st' := []) (h' := mk M T) (fun _ => rfl) (fun g10 => ?_) (fun g10 => ?_)
                · replace g10 : ¬ k = 5 := fun q => g10 ((nI_eq (a := k) (b := 5) (by omega) (by omega)).mpr q)
                  refine R_go 6 (pc' := 85) (L' := [some (.ref 64), some (.int (nI n)), some (.int (nI w)), some (.int (nI k)), some (.int 0)]) (st' := [.int (-1000000005), .ref 64]) (h' := mk M T) (fun _ => rfl) ?_
                  refine R_callD (i := .invokevirtual 81) (kd := 0) (y := M_X8_error) (as := [.ref 64, .int (-1000000005)]) (r := []) (L0 := [some (.ref 64), some (.int (-1000000005))]) (v := some (.int (-1000000005))) (h' := mk (up M 64 5 (M 64 5 + 1)) T) (pc' := 88) (st' := [.int (-1000000005)]) rfl rfl rfl rfl rfl rfl (m_error_5) ?_
                  refine R_ret 1 (pcr := 88) (v := some (.int (-1000000005))) (h' := mk (up M 64 5 (M 64 5 + 1)) T) (fun _ => rfl) ?_
                  exact ⟨rfl, rfl⟩
                · replace g10 : k = 5 := (nI_eq (a := k) (b := 5) (by omega) (by omega)).mp g10
                  refine R_go 8 (pc' := 76) (L' := [some (.ref 64), some (.int (nI n)), some (.int (nI w)), some (.int (nI k)), some (.int 1)]) (st' := [.int 1, .int (nI n), .ref 64]) (h' := mk M T) (fun _ => rfl) ?_
                  refine R_callD (i := .invokevirtual 57) (kd := 0) (y := M_X8_of) (as := [.ref 64, .int (nI n), .int 1]) (r := []) (L0 := [some (.ref 64), some (.int (nI n)), some (.int 1)]) (v := some (.int (M 62 (10 + 7 * n + 1)))) (h' := mk M T) (pc' := 79) (st' := [.int (M 62 (10 + 7 * n + 1))]) rfl rfl rfl rfl rfl rfl (m_of (p := n) (j := 1) (by omega) (by omega)) ?_
                  refine R_ret 2 (pcr := 88) (v := some (.int (M 62 (10 + 7 * n + 1)))) (h' := mk M T) (fun _ => rfl) ?_
                  exfalso; omega
    · exact absurd (nI_in2 (a := 0) (b := 6) (by omega) (by omega) (by omega)) g2
  · exact absurd (⟨nI_pos' (by omega), nI_lt hn (by omega)⟩) g1
set_option maxHeartbeats 4000000 in
theorem op_as {Ln : Nat} {xs : Nat → Int32} {M : xM} {T : Nat} (h : Rel M) {i v : Int32} : OpOK (roS Ln xs) M_X7_as M_X8_as [some (.ref 3), some (.int i), some (.int v), none] [some (.ref 64), some (.int i), some (.int v), none, none] M T := by
  obtain ⟨P, H, h8, h6, pm, hm, px, hx, a, b1, b2, b3, b4, c2, c3, c4, c5⟩ := rel_all h
  rcases nI_cases i P (by omega) with ⟨n, hn, rfl⟩ | hi
  · rcases of_in v (b := 6) (by omega) with ⟨w, hw, rfl⟩ | hv
    · obtain ⟨k, k1, k2⟩ := (c3 n (by omega)).1
      have bn := b1 n 0 (by omega) (by omega)
      have bm := b1 n 1 (by omega) (by omega)
      have u := isU_1 k (by omega) w (by omega)
      by_cases hU : (w = 0 ∨ w = k ∨ (w = 1 ∧ k = 4) ∨ (w = 2 ∧ k = 5))
      · refine OpOK.of (fun d => x_as_1 px h8 hn (by omega) (by omega) (bn.trans k2) (u.1 hU)) (fun d => m_as_1 pm h8 hn (by omega) (by omega) k2 hU) bm.symm h
      · exact OpOK.of (fun d => x_as_0 px h8 hn (by omega) (by omega) (bn.trans k2) (u.2 hU)) (fun d => m_as_0 (M := up M 60 5 (M 60 5 + 1)) pm h8 hn (by omega) (by omega) k2 hU) rfl (h.err 5 (by omega))
    · exact OpOK.of (fun d => x_as_b px h8 hn hv) (fun d => m_as_b (M := up M 60 1 (M 60 1 + 1)) pm h8 hn hv) rfl (h.err 1 (by omega))
  · exact OpOK.of (fun d => x_as_o px h8 hi) (fun d => m_as_o (M := up M 60 1 (M 60 1 + 1)) pm h8 hi) rfl (h.err 1 (by omega))
