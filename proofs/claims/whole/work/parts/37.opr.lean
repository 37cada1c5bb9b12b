/-! OPERATION fits -/
theorem cnt_lst (f : Nat → Bool) : ∀ k c, cnt f c k = 0 ↔ lst f c k = c + k := by
  intro k
  induction k with
  | zero => intro c; exact ⟨fun _ => rfl, fun _ => rfl⟩
  | succ k ih =>
    intro c
    by_cases h : f c = true
    · rw [cnt_t h, lst_t h]
      omega
    · rw [cnt_f h, lst_f h, ih (c + 1)]
      omega
theorem lsv_pos {y : Nat} : 0 ≤ lsv y ↔ y < 41 := by
  unfold lsv
  by_cases h : y < 41
  · rw [if_pos h]
    exact ⟨fun _ => h, fun _ => nI_pos' (by omega)⟩
  · rw [if_neg h]
    exact ⟨fun q => absurd q (by decide), fun q => absurd q h⟩
set_option maxRecDepth 100000 in
set_option maxHeartbeats 4000000 in
theorem x_fits_o {ro : xRO} {d : Nat} {M : xM} {T : Nat} {i : Int32} (hi : ¬ (0 ≤ i ∧ i < 4)) {v w : Int32} : Rn ro (d + 90) M_X7_fits 0 [some (.ref 3), some (.int i), some (.int v), some (.int w), none, none, none, none] [] (mk M T) (fun r h => r = some (.int (-1000000001)) ∧ h = mk (up M 60 1 (M 60 1 + 1)) T) := by
  refine R_go 2 (pc' := 2) (L' := [some (.ref 3), some (.int i), some (.int v), some (.int w), none, none, none, none]) (st' := [.int i, .ref 3]) (h' := mk M T) (fun _ => rfl) ?_
  refine R_callD (i := .invokevirtual 180) (kd := 0) (y := M_X7_sheetAt) (as := [.ref 3, .int i]) (r := []) (L0 := [some (.ref 3), some (.int i)]) (v := some (.null)) (h' := mk M T) (pc' := 5) (st' := [.null]) rfl rfl rfl rfl rfl rfl (c_sheetAt_out hi) ?_
  refine R_go 5 (pc' := 33) (L' := [some (.ref 3), some (.int i), some (.int v), some (.int w), some (.null), none, none, none]) (st' := [.int 1, .ref 3]) (h' := mk M T) (fun _ => rfl) ?_
  refine R_callD (i := .invokevirtual 75) (kd := 0) (y := M_X7_error) (as := [.ref 3, .int 1]) (r := []) (L0 := [some (.ref 3), some (.int 1)]) (v := some (.int (-1000000001))) (h' := mk (up M 60 1 (M 60 1 + 1)) T) (pc' := 36) (st' := [.int (-1000000001)]) rfl rfl rfl rfl rfl rfl (c_error_1) ?_
  refine R_ret 1 (pcr := 36) (v := some (.int (-1000000001))) (h' := mk (up M 60 1 (M 60 1 + 1)) T) (fun _ => rfl) ?_
  exact ⟨rfl, rfl⟩
set_option maxRecDepth 100000 in
set_option maxHeartbeats 4000000 in
theorem m_fits_o {ro : xRO} {d : Nat} {M : xM} {T : Nat} {i : Int32} (hi : ¬ (0 ≤ i ∧ i < 4)) {v w : Int32} : Rn ro (d + 90) M_X8_fits 0 [some (.ref 64), some (.int i), some (.int v), some (.int w), none, none, none, none, none] [] (mk M T) (fun r h => r = some (.int (-1000000001)) ∧ h = mk (up M 64 1 (M 64 1 + 1)) T) := by
  refine R_go 1 (pc' := 1) (L' := [some (.ref 64), some (.int i), some (.int v), some (.int w), none, none, none, none, none]) (st' := [.int i]) (h' := mk M T) (fun _ => rfl) ?_
  refine R_call2 (i := .invokestatic 168) (kd := 1) (y := M_X8_isSheet) (as := [.int i]) (r := []) (L0 := [some (.int i)]) (v1 := some (.int 1)) (v2 := some (.int 0)) (h1' := mk M T) (h2' := mk M T) (pc' := 4) (st1 := [.int 1]) (st2 := [.int 0]) rfl rfl rfl rfl rfl rfl (m_isSheet) (fun g1 => ?_) (fun g1 => ?_)
  · exact absurd g1 (sh_out hi)
  · refine R_go 3 (pc' := 29) (L' := [some (.ref 64), some (.int i), some (.int v), some (.int w), none, none, none, none, none]) (st' := [.int (-1000000001), .ref 64]) (h' := mk M T) (fun _ => rfl) ?_
    refine R_callD (i := .invokevirtual 81) (kd := 0) (y := M_X8_error) (as := [.ref 64, .int (-1000000001)]) (r := []) (L0 := [some (.ref 64), some (.int (-1000000001))]) (v := some (.int (-1000000001))) (h' := mk (up M 64 1 (M 64 1 + 1)) T) (pc' := 32) (st' := [.int (-1000000001)]) rfl rfl rfl rfl rfl rfl (m_error_1) ?_
    refine R_ret 1 (pcr := 32) (v := some (.int (-1000000001))) (h' := mk (up M 64 1 (M 64 1 + 1)) T) (fun _ => rfl) ?_
    exact ⟨rfl, rfl⟩
set_option maxRecDepth 100000 in
set_option maxHeartbeats 4000000 in
theorem x_fits_b1 {ro : xRO} {d : Nat} {M : xM} {T : Nat} {e : Nat} (he : e < 4) {v w : Int32} (hv : ¬ (0 ≤ v ∧ v ≤ 23)) : Rn ro (d + 90) M_X7_fits 0 [some (.ref 3), some (.int (nI e)), some (.int v), some (.int w), none, none, none, none] [] (mk M T) (fun r h => r = some (.int (-1000000001)) ∧ h = mk (up M 60 1 (M 60 1 + 1)) T) := by
  refine R_go 2 (pc' := 2) (L' := [some (.ref 3), some (.int (nI e)), some (.int v), some (.int w), none, none, none, none]) (st' := [.int (nI e), .ref 3]) (h' := mk M T) (fun _ => rfl) ?_
  refine R_callD (i := .invokevirtual 180) (kd := 0) (y := M_X7_sheetAt) (as := [.ref 3, .int (nI e)]) (r := []) (L0 := [some (.ref 3), some (.int (nI e))]) (v := some (.ref (52 + 2 * e + 3))) (h' := mk M T) (pc' := 5) (st' := [.ref (52 + 2 * e + 3)]) rfl rfl rfl rfl rfl rfl (c_sheetAt_in (n := e) (by omega)) ?_
  refine R_go 6 (pc' := 16) (L' := [some (.ref 3), some (.int (nI e)), some (.int v), some (.int w), some (.ref (52 + 2 * e + 3)), none, none, none]) (st' := [.int 23, .int 0, .int v]) (h' := mk M T) (fun _ => rfl) ?_
  refine R_call2 (i := .invokestatic 78) (kd := 1) (y := M_X7_within) (as := [.int v, .int 0, .int 23]) (r := []) (L0 := [some (.int v), some (.int 0), some (.int 23)]) (v1 := some (.int 1)) (v2 := some (.int 0)) (h1' := mk M T) (h2' := mk M T) (pc' := 19) (st1 := [.int 1]) (st2 := [.int 0]) rfl rfl rfl rfl rfl rfl (c_within) (fun g1 => ?_) (fun g1 => ?_)
  · exact absurd g1 (hv)
  · refine R_go 3 (pc' := 33) (L' := [some (.ref 3), some (.int (nI e)), some (.int v), some (.int w), some (.ref (52 + 2 * e + 3)), none, none, none]) (st' := [.int 1, .ref 3]) (h' := mk M T) (fun _ => rfl) ?_
    refine R_callD (i := .invokevirtual 75) (kd := 0) (y := M_X7_error) (as := [.ref 3, .int 1]) (r := []) (L0 := [some (.ref 3), some (.int 1)]) (v := some (.int (-1000000001))) (h' := mk (up M 60 1 (M 60 1 + 1)) T) (pc' := 36) (st' := [.int (-1000000001)]) rfl rfl rfl rfl rfl rfl (c_error_1) ?_
    refine R_ret 1 (pcr := 36) (v := some (.int (-1000000001))) (h' := mk (up M 60 1 (M 60 1 + 1)) T) (fun _ => rfl) ?_
    exact ⟨rfl, rfl⟩
set_option maxRecDepth 100000 in
set_option maxHeartbeats 4000000 in
theorem m_fits_b1 {ro : xRO} {d : Nat} {M : xM} {T : Nat} {e : Nat} (he : e < 4) {v w : Int32} (hv : ¬ (0 ≤ v ∧ v ≤ 23)) : Rn ro (d + 90) M_X8_fits 0 [some (.ref 64), some (.int (nI e)), some (.int v), some (.int w), none, none, none, none, none] [] (mk M T) (fun r h => r = some (.int (-1000000001)) ∧ h = mk (up M 64 1 (M 64 1 + 1)) T) := by
  refine R_go 1 (pc' := 1) (L' := [some (.ref 64), some (.int (nI e)), some (.int v), some (.int w), none, none, none, none, none]) (st' := [.int (nI e)]) (h' := mk M T) (fun _ => rfl) ?_
  refine R_call2 (i := .invokestatic 168) (kd := 1) (y := M_X8_isSheet) (as := [.int (nI e)]) (r := []) (L0 := [some (.int (nI e))]) (v1 := some (.int 1)) (v2 := some (.int 0)) (h1' := mk M T) (h2' := mk M T) (pc' := 4) (st1 := [.int 1]) (st2 := [.int 0]) rfl rfl rfl rfl rfl rfl (m_isSheet) (fun g1 => ?_) (fun g1 => ?_)
  · refine R_go 4 (pc' := 11) (L' := [some (.ref 64), some (.int (nI e)), some (.int v), some (.int w), none, none, none, none, none]) (st' := [.int 23, .int 0, .int v]) (h' := mk M T) (fun _ => rfl) ?_
    refine R_call2 (i := .invokestatic 53) (kd := 1) (y := M_X8_in) (as := [.int v, .int 0, .int 23]) (r := []) (L0 := [some (.int v), some (.int 0), some (.int 23)]) (v1 := some (.int 1)) (v2 := some (.int 0)) (h1' := mk M T) (h2' := mk M T) (pc' := 14) (st1 := [.int 1]) (st2 := [.int 0]) rfl rfl rfl rfl rfl rfl (m_in) (fun g2 => ?_) (fun g2 => ?_)
    · exact absurd g2 (hv)
    · refine R_go 3 (pc' := 29) (L' := [some (.ref 64), some (.int (nI e)), some (.int v), some (.int w), none, none, none, none, none]) (st' := [.int (-1000000001), .ref 64]) (h' := mk M T) (fun _ => rfl) ?_
      refine R_callD (i := .invokevirtual 81) (kd := 0) (y := M_X8_error) (as := [.ref 64, .int (-1000000001)]) (r := []) (L0 := [some (.ref 64), some (.int (-1000000001))]) (v := some (.int (-1000000001))) (h' := mk (up M 64 1 (M 64 1 + 1)) T) (pc' := 32) (st' := [.int (-1000000001)]) rfl rfl rfl rfl rfl rfl (m_error_1) ?_
      refine R_ret 1 (pcr := 32) (v := some (.int (-1000000001))) (h' := mk (up M 64 1 (M 64 1 + 1)) T) (fun _ => rfl) ?_
      exact ⟨rfl, rfl⟩
  · exact absurd (nI_in2 (a := 0) (b := 3) (by omega) (by omega) (by omega)) g1
set_option maxRecDepth 100000 in
set_option maxHeartbeats 4000000 in
theorem x_fits_b2 {ro : xRO} {d : Nat} {M : xM} {T : Nat} {e : Nat} (he : e < 4) {t : Nat} {w : Int32} (ht : t ≤ 23) (hv : ¬ (0 ≤ w ∧ w ≤ 1)) : Rn ro (d + 90) M_X7_fits 0 [some (.ref 3), some (.int (nI e)), some (.int (nI t)), some (.int w), none, none, none, none] [] (mk M T) (fun r h => r = some (.int (-1000000001)) ∧ h = mk (up M 60 1 (M 60 1 + 1)) T) := by
  refine R_go 2 (pc' := 2) (L' := [some (.ref 3), some (.int (nI e)), some (.int (nI t)), some (.int w), none, none, none, none]) (st' := [.int (nI e), .ref 3]) (h' := mk M T) (fun _ => rfl) ?_
  refine R_callD (i := .invokevirtual 180) (kd := 0) (y := M_X7_sheetAt) (as := [.ref 3, .int (nI e)]) (r := []) (L0 := [some (.ref 3), some (.int (nI e))]) (v := some (.ref (52 + 2 * e + 3))) (h' := mk M T) (pc' := 5) (st' := [.ref (52 + 2 * e + 3)]) rfl rfl rfl rfl rfl rfl (c_sheetAt_in (n := e) (by omega)) ?_
  refine R_go 6 (pc' := 16) (L' := [some (.ref 3), some (.int (nI e)), some (.int (nI t)), some (.int w), some (.ref (52 + 2 * e + 3)), none, none, none]) (st' := [.int 23, .int 0, .int (nI t)]) (h' := mk M T) (fun _ => rfl) ?_
  refine R_call2 (i := .invokestatic 78) (kd := 1) (y := M_X7_within) (as := [.int (nI t), .int 0, .int 23]) (r := []) (L0 := [some (.int (nI t)), some (.int 0), some (.int 23)]) (v1 := some (.int 1)) (v2 := some (.int 0)) (h1' := mk M T) (h2' := mk M T) (pc' := 19) (st1 := [.int 1]) (st2 := [.int 0]) rfl rfl rfl rfl rfl rfl (c_within) (fun g1 => ?_) (fun g1 => ?_)
  · refine R_go 4 (pc' := 25) (L' := [some (.ref 3), some (.int (nI e)), some (.int (nI t)), some (.int w), some (.ref (52 + 2 * e + 3)), none, none, none]) (st' := [.int 1, .int 0, .int w]) (h' := mk M T) (fun _ => rfl) ?_
    refine R_call2 (i := .invokestatic 78) (kd := 1) (y := M_X7_within) (as := [.int w, .int 0, .int 1]) (r := []) (L0 := [some (.int w), some (.int 0), some (.int 1)]) (v1 := some (.int 1)) (v2 := some (.int 0)) (h1' := mk M T) (h2' := mk M T) (pc' := 28) (st1 := [.int 1]) (st2 := [.int 0]) rfl rfl rfl rfl rfl rfl (c_within) (fun g2 => ?_) (fun g2 => ?_)
    · exact absurd g2 (hv)
    · refine R_go 3 (pc' := 33) (L' := [some (.ref 3), some (.int (nI e)), some (.int (nI t)), some (.int w), some (.ref (52 + 2 * e + 3)), none, none, none]) (st' := [.int 1, .ref 3]) (h' := mk M T) (fun _ => rfl) ?_
      refine R_callD (i := .invokevirtual 75) (kd := 0) (y := M_X7_error) (as := [.ref 3, .int 1]) (r := []) (L0 := [some (.ref 3), some (.int 1)]) (v := some (.int (-1000000001))) (h' := mk (up M 60 1 (M 60 1 + 1)) T) (pc' := 36) (st' := [.int (-1000000001)]) rfl rfl rfl rfl rfl rfl (c_error_1) ?_
      refine R_ret 1 (pcr := 36) (v := some (.int (-1000000001))) (h' := mk (up M 60 1 (M 60 1 + 1)) T) (fun _ => rfl) ?_
      exact ⟨rfl, rfl⟩
  · exact absurd (nI_in2 (a := 0) (b := 23) (by omega) (by omega) (by omega)) g1
set_option maxRecDepth 100000 in
set_option maxHeartbeats 4000000 in
theorem m_fits_b2 {ro : xRO} {d : Nat} {M : xM} {T : Nat} {e : Nat} (he : e < 4) {t : Nat} {w : Int32} (ht : t ≤ 23) (hv : ¬ (0 ≤ w ∧ w ≤ 1)) : Rn ro (d + 90) M_X8_fits 0 [some (.ref 64), some (.int (nI e)), some (.int (nI t)), some (.int w), none, none, none, none, none] [] (mk M T) (fun r h => r = some (.int (-1000000001)) ∧ h = mk (up M 64 1 (M 64 1 + 1)) T) := by
  refine R_go 1 (pc' := 1) (L' := [some (.ref 64), some (.int (nI e)), some (.int (nI t)), some (.int w), none, none, none, none, none]) (st' := [.int (nI e)]) (h' := mk M T) (fun _ => rfl) ?_
  refine R_call2 (i := .invokestatic 168) (kd := 1) (y := M_X8_isSheet) (as := [.int (nI e)]) (r := []) (L0 := [some (.int (nI e))]) (v1 := some (.int 1)) (v2 := some (.int 0)) (h1' := mk M T) (h2' := mk M T) (pc' := 4) (st1 := [.int 1]) (st2 := [.int 0]) rfl rfl rfl rfl rfl rfl (m_isSheet) (fun g1 => ?_) (fun g1 => ?_)
  · refine R_go 4 (pc' := 11) (L' := [some (.ref 64), some (.int (nI e)), some (.int (nI t)), some (.int w), none, none, none, none, none]) (st' := [.int 23, .int 0, .int (nI t)]) (h' := mk M T) (fun _ => rfl) ?_
    refine R_call2 (i := .invokestatic 53) (kd := 1) (y := M_X8_in) (as := [.int (nI t), .int 0, .int 23]) (r := []) (L0 := [some (.int (nI t)), some (.int 0), some (.int 23)]) (v1 := some (.int 1)) (v2 := some (.int 0)) (h1' := mk M T) (h2' := mk M T) (pc' := 14) (st1 := [.int 1]) (st2 := [.int 0]) rfl rfl rfl rfl rfl rfl (m_in) (fun g2 => ?_) (fun g2 => ?_)
    · refine R_go 4 (pc' := 20) (L' := [some (.ref 64), some (.int (nI e)), some (.int (nI t)), some (.int w), none, none, none, none, none]) (st' := [.int 1, .int 0, .int w]) (h' := mk M T) (fun _ => rfl) ?_
      refine R_call2 (i := .invokestatic 53) (kd := 1) (y := M_X8_in) (as := [.int w, .int 0, .int 1]) (r := []) (L0 := [some (.int w), some (.int 0), some (.int 1)]) (v1 := some (.int 1)) (v2 := some (.int 0)) (h1' := mk M T) (h2' := mk M T) (pc' := 23) (st1 := [.int 1]) (st2 := [.int 0]) rfl rfl rfl rfl rfl rfl (m_in) (fun g3 => ?_) (fun g3 => ?_)
      · exact absurd g3 (hv)
      · refine R_go 3 (pc' := 29) (L' := [some (.ref 64), some (.int (nI e)), some (.int (nI t)), some (.int w), none, none, none, none, none]) (st' := [.int (-1000000001), .ref 64]) (h' := mk M T) (fun _ => rfl) ?_
        refine R_callD (i := .invokevirtual 81) (kd := 0) (y := M_X8_error) (as := [.ref 64, .int (-1000000001)]) (r := []) (L0 := [some (.ref 64), some (.int (-1000000001))]) (v := some (.int (-1000000001))) (h' := mk (up M 64 1 (M 64 1 + 1)) T) (pc' := 32) (st' := [.int (-1000000001)]) rfl rfl rfl rfl rfl rfl (m_error_1) ?_
        refine R_ret 1 (pcr := 32) (v := some (.int (-1000000001))) (h' := mk (up M 64 1 (M 64 1 + 1)) T) (fun _ => rfl) ?_
        exact ⟨rfl, rfl⟩
    · exact absurd (nI_in2 (a := 0) (b := 23) (by omega) (by omega) (by omega)) g2
  · exact absurd (nI_in2 (a := 0) (b := 3) (by omega) (by omega) (by omega)) g1
set_option maxRecDepth 100000 in
set_option maxHeartbeats 4000000 in
theorem x_fits_0 {ro : xRO} {d : Nat} {M : xM} {T : Nat} {e : Nat} (he : e < 4) (hb : M (52 + 2 * e) 1 = nI 0) {t u : Nat} (ht : t ≤ 23) (hu : u ≤ 1) : Rn ro (d + 90) M_X7_fits 0 [some (.ref 3), some (.int (nI e)), some (.int (nI t)), some (.int (nI u)), none, none, none, none] [] (mk M T) (fun r h => r = some (.int (-1000000002)) ∧ h = mk (up M 60 2 (M 60 2 + 1)) T) := by
  refine R_go 2 (pc' := 2) (L' := [some (.ref 3), some (.int (nI e)), some (.int (nI t)), some (.int (nI u)), none, none, none, none]) (st' := [.int (nI e), .ref 3]) (h' := mk M T) (fun _ => rfl) ?_
  refine R_callD (i := .invokevirtual 180) (kd := 0) (y := M_X7_sheetAt) (as := [.ref 3, .int (nI e)]) (r := []) (L0 := [some (.ref 3), some (.int (nI e))]) (v := some (.ref (52 + 2 * e + 3))) (h' := mk M T) (pc' := 5) (st' := [.ref (52 + 2 * e + 3)]) rfl rfl rfl rfl rfl rfl (c_sheetAt_in (n := e) (by omega)) ?_
  refine R_go 6 (pc' := 16) (L' := [some (.ref 3), some (.int (nI e)), some (.int (nI t)), some (.int (nI u)), some (.ref (52 + 2 * e + 3)), none, none, none]) (st' := [.int 23, .int 0, .int (nI t)]) (h' := mk M T) (fun _ => rfl) ?_
  refine R_call2 (i := .invokestatic 78) (kd := 1) (y := M_X7_within) (as := [.int (nI t), .int 0, .int 23]) (r := []) (L0 := [some (.int (nI t)), some (.int 0), some (.int 23)]) (v1 := some (.int 1)) (v2 := some (.int 0)) (h1' := mk M T) (h2' := mk M T) (pc' := 19) (st1 := [.int 1]) (st2 := [.int 0]) rfl rfl rfl rfl rfl rfl (c_within) (fun g1 => ?_) (fun g1 => ?_)
  · refine R_go 4 (pc' := 25) (L' := [some (.ref 3), some (.int (nI e)), some (.int (nI t)), some (.int (nI u)), some (.ref (52 + 2 * e + 3)), none, none, none]) (st' := [.int 1, .int 0, .int (nI u)]) (h' := mk M T) (fun _ => rfl) ?_
    refine R_call2 (i := .invokestatic 78) (kd := 1) (y := M_X7_within) (as := [.int (nI u), .int 0, .int 1]) (r := []) (L0 := [some (.int (nI u)), some (.int 0), some (.int 1)]) (v1 := some (.int 1)) (v2 := some (.int 0)) (h1' := mk M T) (h2' := mk M T) (pc' := 28) (st1 := [.int 1]) (st2 := [.int 0]) rfl rfl rfl rfl rfl rfl (c_within) (fun g2 => ?_) (fun g2 => ?_)
    · refine R_go 2 (pc' := 39) (L' := [some (.ref 3), some (.int (nI e)), some (.int (nI t)), some (.int (nI u)), some (.ref (52 + 2 * e + 3)), none, none, none]) (st' := [.ref (52 + 2 * e + 3)]) (h' := mk M T) (fun _ => rfl) ?_
      refine R_getI (i := 237) (j := 1) (c := 52 + 2 * e) (sh_sheet (by omega)) rfl rfl rfl ?_
      refine R_top (y := 0) (hb) ?_
      refine R_go 3 (pc' := 47) (L' := [some (.ref 3), some (.int (nI e)), some (.int (nI t)), some (.int (nI u)), some (.ref (52 + 2 * e + 3)), none, none, none]) (st' := [.int 2, .ref 3]) (h' := mk M T) (fun _ => rfl) ?_
      refine R_callD (i := .invokevirtual 75) (kd := 0) (y := M_X7_error) (as := [.ref 3, .int 2]) (r := []) (L0 := [some (.ref 3), some (.int 2)]) (v := some (.int (-1000000002))) (h' := mk (up M 60 2 (M 60 2 + 1)) T) (pc' := 50) (st' := [.int (-1000000002)]) rfl rfl rfl rfl rfl rfl (c_error_2) ?_
      refine R_ret 1 (pcr := 50) (v := some (.int (-1000000002))) (h' := mk (up M 60 2 (M 60 2 + 1)) T) (fun _ => rfl) ?_
      exact ⟨rfl, rfl⟩
    · exact absurd (nI_in2 (a := 0) (b := 1) (by omega) (by omega) (by omega)) g2
  · exact absurd (nI_in2 (a := 0) (b := 23) (by omega) (by omega) (by omega)) g1
set_option maxRecDepth 100000 in
set_option maxHeartbeats 4000000 in
theorem m_fits_0 {ro : xRO} {d : Nat} {M : xM} {T : Nat} {e : Nat} (he : e < 4) (hb : M 65 e = nI 0) {t u : Nat} (ht : t ≤ 23) (hu : u ≤ 1) : Rn ro (d + 90) M_X8_fits 0 [some (.ref 64), some (.int (nI e)), some (.int (nI t)), some (.int (nI u)), none, none, none, none, none] [] (mk M T) (fun r h => r = some (.int (-1000000002)) ∧ h = mk (up M 64 2 (M 64 2 + 1)) T) := by
  refine R_go 1 (pc' := 1) (L' := [some (.ref 64), some (.int (nI e)), some (.int (nI t)), some (.int (nI u)), none, none, none, none, none]) (st' := [.int (nI e)]) (h' := mk M T) (fun _ => rfl) ?_
  refine R_call2 (i := .invokestatic 168) (kd := 1) (y := M_X8_isSheet) (as := [.int (nI e)]) (r := []) (L0 := [some (.int (nI e))]) (v1 := some (.int 1)) (v2 := some (.int 0)) (h1' := mk M T) (h2' := mk M T) (pc' := 4) (st1 := [.int 1]) (st2 := [.int 0]) rfl rfl rfl rfl rfl rfl (m_isSheet) (fun g1 => ?_) (fun g1 => ?_)
  · refine R_go 4 (pc' := 11) (L' := [some (.ref 64), some (.int (nI e)), some (.int (nI t)), some (.int (nI u)), none, none, none, none, none]) (st' := [.int 23, .int 0, .int (nI t)]) (h' := mk M T) (fun _ => rfl) ?_
    refine R_call2 (i := .invokestatic 53) (kd := 1) (y := M_X8_in) (as := [.int (nI t), .int 0, .int 23]) (r := []) (L0 := [some (.int (nI t)), some (.int 0), some (.int 23)]) (v1 := some (.int 1)) (v2 := some (.int 0)) (h1' := mk M T) (h2' := mk M T) (pc' := 14) (st1 := [.int 1]) (st2 := [.int 0]) rfl rfl rfl rfl rfl rfl (m_in) (fun g2 => ?_) (fun g2 => ?_)
    · refine R_go 4 (pc' := 20) (L' := [some (.ref 64), some (.int (nI e)), some (.int (nI t)), some (.int (nI u)), none, none, none, none, none]) (st' := [.int 1, .int 0, .int (nI u)]) (h' := mk M T) (fun _ => rfl) ?_
      refine R_call2 (i := .invokestatic 53) (kd := 1) (y := M_X8_in) (as := [.int (nI u), .int 0, .int 1]) (r := []) (L0 := [some (.int (nI u)), some (.int 0), some (.int 1)]) (v1 := some (.int 1)) (v2 := some (.int 0)) (h1' := mk M T) (h2' := mk M T) (pc' := 23) (st1 := [.int 1]) (st2 := [.int 0]) rfl rfl rfl rfl rfl rfl (m_in) (fun g3 => ?_) (fun g3 => ?_)
      · refine R_go 4 (pc' := 38) (L' := [some (.ref 64), some (.int (nI e)), some (.int (nI t)), some (.int (nI u)), none, none, none, none, none]) (st' := [.int (nI e), .ref 68]) (h' := mk M T) (fun _ => rfl) ?_
        refine R_iald (c := 65) (n := 4) (j := e) rfl rfl (by omega) (by decide) ?_
        refine R_top (y := 0) (hb) ?_
        refine R_go 3 (pc' := 45) (L' := [some (.ref 64), some (.int (nI e)), some (.int (nI t)), some (.int (nI u)), none, none, none, none, none]) (st' := [.int (-1000000002), .ref 64]) (h' := mk M T) (fun _ => rfl) ?_
        refine R_callD (i := .invokevirtual 81) (kd := 0) (y := M_X8_error) (as := [.ref 64, .int (-1000000002)]) (r := []) (L0 := [some (.ref 64), some (.int (-1000000002))]) (v := some (.int (-1000000002))) (h' := mk (up M 64 2 (M 64 2 + 1)) T) (pc' := 48) (st' := [.int (-1000000002)]) rfl rfl rfl rfl rfl rfl (m_error_2) ?_
        refine R_ret 1 (pcr := 48) (v := some (.int (-1000000002))) (h' := mk (up M 64 2 (M 64 2 + 1)) T) (fun _ => rfl) ?_
        exact ⟨rfl, rfl⟩
      · exact absurd (nI_in2 (a := 0) (b := 1) (by omega) (by omega) (by omega)) g3
    · exact absurd (nI_in2 (a := 0) (b := 23) (by omega) (by omega) (by omega)) g2
  · exact absurd (nI_in2 (a := 0) (b := 3) (by omega) (by omega) (by omega)) g1
set_option maxRecDepth 100000 in
set_option maxHeartbeats 4000000 in
theorem lp_x_fits {ro : xRO} {d : Nat} {M : xM} {T : Nat} {Q : Option Value → xH → Prop} {e : Nat} (he : e < 4) {z : Nat} (hz : M (52 + 2 * e) 2 = nI z) (z24 : z ≤ 24) {P : Nat} (hP : M 1 6 = nI P) (h8 : P ≤ 8) {lamp : Nat} (hl : M 1 13 = nI lamp) (l1 : lamp ≤ 1) {kd md fc cl : Nat → Nat} {cs : Nat → Int32} (hpn : ∀ i, i < 8 → paneF M (3 + i) (kd i) (md i) (fc i) (cl i)) (hq : ∀ i v, i < 24 → v < 100 → (M (53 + 2 * e) i = nI v ↔ cs i = nI v)) {t u : Nat} (ht : t ≤ 23) (hu : u ≤ 1) : ∀ (k : Nat) (c g y : Nat), c + k = 41 → g ≤ c → (y = 41 ∨ y < c) → (Rn ro (d + 90) M_X7_fits 110 [some (.ref 3), some (.int (nI e)), some (.int (nI t)), some (.int (nI u)), some (.ref (52 + 2 * e + 3)), some (.int (nI (g + cnt (fun c => decide (lst (rgF kd md fc cl cs P t c lamp) 0 z = z)) c k))), some (.int (lsv (if y < 41 then y else lst (fun c => decide (lst (rgF kd md fc cl cs P t c lamp) 0 z = z)) c k))), some (.int 41)] [] (mk M T) Q) → Rn ro (d + 90) M_X7_fits 60 [some (.ref 3), some (.int (nI e)), some (.int (nI t)), some (.int (nI u)), some (.ref (52 + 2 * e + 3)), some (.int (nI g)), some (.int (lsv y)), some (.int (nI c))] [] (mk M T) Q := by
  intro k
  induction k with
  | zero =>
    intro c g y hc hg hy k1
    obtain rfl : c = 41 := by omega
    rw [show (if y < 41 then y else lst (fun c => decide (lst (rgF kd md fc cl cs P t c lamp) 0 z = z)) 41 0) = y by split <;> first | rfl | (show 41 = y; omega)] at k1
    refine R_go 3 (pc' := 110) (L' := [some (.ref 3), some (.int (nI e)), some (.int (nI t)), some (.int (nI u)), some (.ref (52 + 2 * e + 3)), some (.int (nI g)), some (.int (lsv y)), some (.int 41)]) (st' := []) (h' := mk M T) (fun _ => rfl) ?_
    exact k1
  | succ k ih =>
    intro c g y hc hg hy k1
    have q7 := (lst_le (rgF kd md fc cl cs P t c lamp) z 0).2
    refine R_if 3 (c := 41 ≤ (nI c)) (t := 110) (f := 67) (L' := [some (.ref 3), some (.int (nI e)), some (.int (nI t)), some (.int (nI u)), some (.ref (52 + 2 * e + 3)), some (.int (nI g)), some (.int (lsv y)), some (.int (nI c))]) (st' := []) (h' := mk M T) (fun _ => rfl) (fun g1 => ?_) (fun g1 => ?_)
    · replace g1 : 41 ≤ c := (nI_leI (a := 41) (b := c) (by omega) (by omega)).mp g1
      omega
    · replace g1 : ¬ 41 ≤ c := fun q => g1 ((nI_leI (a := 41) (b := c) (by omega) (by omega)).mpr q)
      refine R_go 5 (pc' := 76) (L' := [some (.ref 3), some (.int (nI e)), some (.int (nI t)), some (.int (nI u)), some (.ref (52 + 2 * e + 3)), some (.int (nI g)), some (.int (lsv y)), some (.int (nI c))]) (st' := [.int (nI c), .int (nI t), .ref (52 + 2 * e + 3), .ref 4]) (h' := mk M T) (fun _ => rfl) ?_
      refine R_callD (i := .invokevirtual 240) (kd := 0) (y := M_X0_rightOnes) (as := [.ref 4, .ref (52 + 2 * e + 3), .int (nI t), .int (nI c)]) (r := []) (L0 := [some (.ref 4), some (.ref (52 + 2 * e + 3)), some (.int (nI t)), some (.int (nI c)), none, none]) (v := some (.int (nI (lst (rgF kd md fc cl cs P t c lamp) 0 z)))) (h' := mk M T) (pc' := 79) (st' := [.int (nI (lst (rgF kd md fc cl cs P t c lamp) 0 z))]) rfl rfl rfl rfl rfl rfl (c_rightOnes (t := t) (cold := c) he hz z24 hP h8 hl l1 hpn hq (by omega) (by omega)) ?_
      refine R_go 1 (pc' := 81) (L' := [some (.ref 3), some (.int (nI e)), some (.int (nI t)), some (.int (nI u)), some (.ref (52 + 2 * e + 3)), some (.int (nI g)), some (.int (lsv y)), some (.int (nI c))]) (st' := [.ref (52 + 2 * e + 3), .int (nI (lst (rgF kd md fc cl cs P t c lamp) 0 z))]) (h' := mk M T) (fun _ => rfl) ?_
      refine R_getI (i := 244) (j := 2) (c := 52 + 2 * e) (sh_sheet (by omega)) rfl rfl rfl ?_
      refine R_top (y := nI z) (hz) ?_
      refine R_ifn 1 (c := (nI (lst (rgF kd md fc cl cs P t c lamp) 0 z)) = (nI z)) (t := 104) (f := 87) (L' := [some (.ref 3), some (.int (nI e)), some (.int (nI t)), some (.int (nI u)), some (.ref (52 + 2 * e + 3)), some (.int (nI g)), some (.int (lsv y)), some (.int (nI c))]) (st' := []) (h' := mk M T) (fun _ => rfl) (fun g2 => ?_) (fun g2 => ?_)
      · replace g2 : ¬ (lst (rgF kd md fc cl cs P t c lamp) 0 z) = z := fun q => g2 ((nI_eq (a := lst (rgF kd md fc cl cs P t c lamp) 0 z) (b := z) (by omega) (by omega)).mpr q)
        refine R_go 1 (pc' := 107) (L' := [some (.ref 3), some (.int (nI e)), some (.int (nI t)), some (.int (nI u)), some (.ref (52 + 2 * e + 3)), some (.int (nI g)), some (.int (lsv y)), some (.int ((nI c) + 1))]) (st' := []) (h' := mk M T) (fun _ => rfl) ?_
        rw [nI_1]
        refine R_go 1 (pc' := 60) (L' := [some (.ref 3), some (.int (nI e)), some (.int (nI t)), some (.int (nI u)), some (.ref (52 + 2 * e + 3)), some (.int (nI g)), some (.int (lsv y)), some (.int (nI (c + 1)))]) (st' := []) (h' := mk M T) (fun _ => rfl) ?_
        rw [cnt_f (f := (fun c => decide (lst (rgF kd md fc cl cs P t c lamp) 0 z = z))) (i := c) (by simp only [decide_eq_true_eq]; exact g2), lst_f (f := (fun c => decide (lst (rgF kd md fc cl cs P t c lamp) 0 z = z))) (i := c) (by simp only [decide_eq_true_eq]; exact g2)] at k1
        exact ih (c + 1) g y (by omega) (by omega) (by omega) k1
      · replace g2 : (lst (rgF kd md fc cl cs P t c lamp) 0 z) = z := (nI_eq (a := lst (rgF kd md fc cl cs P t c lamp) 0 z) (b := z) (by omega) (by omega)).mp g2
        refine R_go 1 (pc' := 90) (L' := [some (.ref 3), some (.int (nI e)), some (.int (nI t)), some (.int (nI u)), some (.ref (52 + 2 * e + 3)), some (.int ((nI g) + 1)), some (.int (lsv y)), some (.int (nI c))]) (st' := []) (h' := mk M T) (fun _ => rfl) ?_
        rw [nI_1]
        refine R_if 2 (c := 0 ≤ (lsv y)) (t := 100) (f := 95) (L' := [some (.ref 3), some (.int (nI e)), some (.int (nI t)), some (.int (nI u)), some (.ref (52 + 2 * e + 3)), some (.int (nI (g + 1))), some (.int (lsv y)), some (.int (nI c))]) (st' := []) (h' := mk M T) (fun _ => rfl) (fun g3 => ?_) (fun g3 => ?_)
        · refine R_go 3 (pc' := 107) (L' := [some (.ref 3), some (.int (nI e)), some (.int (nI t)), some (.int (nI u)), some (.ref (52 + 2 * e + 3)), some (.int (nI (g + 1))), some (.int (lsv y)), some (.int ((nI c) + 1))]) (st' := []) (h' := mk M T) (fun _ => rfl) ?_
          rw [nI_1]
          refine R_go 1 (pc' := 60) (L' := [some (.ref 3), some (.int (nI e)), some (.int (nI t)), some (.int (nI u)), some (.ref (52 + 2 * e + 3)), some (.int (nI (g + 1))), some (.int (lsv y)), some (.int (nI (c + 1)))]) (st' := []) (h' := mk M T) (fun _ => rfl) ?_
          rw [cnt_t (f := (fun c => decide (lst (rgF kd md fc cl cs P t c lamp) 0 z = z))) (i := c) (by simp only [decide_eq_true_eq]; exact g2), lst_t (f := (fun c => decide (lst (rgF kd md fc cl cs P t c lamp) 0 z = z))) (i := c) (by simp only [decide_eq_true_eq]; exact g2), ← Nat.add_assoc] at k1
          have y41 : y < 41 := lsv_pos.mp g3
          rw [if_pos y41] at k1
          have w := ih (c + 1) (g + 1) y (by omega) (by omega) (by omega)
          rw [if_pos y41] at w
          exact w k1
        · refine R_go 4 (pc' := 107) (L' := [some (.ref 3), some (.int (nI e)), some (.int (nI t)), some (.int (nI u)), some (.ref (52 + 2 * e + 3)), some (.int (nI (g + 1))), some (.int (nI c)), some (.int ((nI c) + 1))]) (st' := []) (h' := mk M T) (fun _ => rfl) ?_
          rw [nI_1]
          refine R_go 1 (pc' := 60) (L' := [some (.ref 3), some (.int (nI e)), some (.int (nI t)), some (.int (nI u)), some (.ref (52 + 2 * e + 3)), some (.int (nI (g + 1))), some (.int (nI c)), some (.int (nI (c + 1)))]) (st' := []) (h' := mk M T) (fun _ => rfl) ?_
          rw [cnt_t (f := (fun c => decide (lst (rgF kd md fc cl cs P t c lamp) 0 z = z))) (i := c) (by simp only [decide_eq_true_eq]; exact g2), lst_t (f := (fun c => decide (lst (rgF kd md fc cl cs P t c lamp) 0 z = z))) (i := c) (by simp only [decide_eq_true_eq]; exact g2), ← Nat.add_assoc] at k1
          have y41 : ¬ y < 41 := fun q => g3 (lsv_pos.mpr q)
          rw [if_neg y41] at k1
          have w := ih (c + 1) (g + 1) c (by omega) (by omega) (by omega)
          rw [if_pos (show c < 41 by omega), lsv_p (show c < 41 by omega)] at w
          rw [lsv_p (show c < 41 by omega)] at k1
          exact w k1
set_option maxRecDepth 100000 in
set_option maxHeartbeats 4000000 in
theorem lp_m_fits {ro : xRO} {d : Nat} {M : xM} {T : Nat} {Q : Option Value → xH → Prop} {e : Nat} (he : e < 4) {z : Nat} (hz : M 66 e = nI z) (z24 : z ≤ 24) {b : Nat} (hb : M 65 e = nI b) (b32 : b ≤ 32) (b0 : ¬ b = 0) {P : Nat} (hP : M 62 6 = nI P) (h8 : P ≤ 8) {kd md fc cl : Nat → Nat} {cs : Nat → Int32} (hpn : ∀ i, i < 8 → rpF M i (kd i) (md i) (fc i) (cl i)) (hq : ∀ i, i < 24 → M 67 (24 * e + i) = cs i) {cold lamp : Nat} (hc : M 62 0 = nI cold) (hl : M 62 2 = nI lamp) (c40 : cold ≤ 40) (l1 : lamp ≤ 1) (h0 : M 61 7 = 0) {t u : Nat} (ht : t ≤ 23) (hu : u ≤ 1) : ∀ (k : Nat) (M' : xM) (w : Option Value), coX M M' → k ≤ 41 → (∀ M' w, coX M M' → Rn ro (d + 90) M_X8_fits 137 [some (.ref 64), some (.int (nI e)), some (.int (nI t)), some (.int (nI u)), some (.int (nI cold)), some (.int (nI (cnt (fun c => decide (lst (rgF kd md fc cl cs P t c lamp) 0 z = z)) 0 41))), some (.int (lsv (lst (fun c => decide (lst (rgF kd md fc cl cs P t c lamp) 0 z = z)) 0 41))), some (.int (-1)), w] [] (mk M' T) Q) → Rn ro (d + 90) M_X8_fits 67 [some (.ref 64), some (.int (nI e)), some (.int (nI t)), some (.int (nI u)), some (.int (nI cold)), some (.int (nI (cnt (fun c => decide (lst (rgF kd md fc cl cs P t c lamp) 0 z = z)) k (41 - k)))), some (.int (lsv (lst (fun c => decide (lst (rgF kd md fc cl cs P t c lamp) 0 z = z)) k (41 - k)))), some (.int (vD k)), w] [] (mk M' T) Q := by
  intro k
  induction k with
  | zero =>
    intro M' w hM hk k1
    refine R_go 2 (pc' := 137) (L' := [some (.ref 64), some (.int (nI e)), some (.int (nI t)), some (.int (nI u)), some (.int (nI cold)), some (.int (nI (cnt (fun c => decide (lst (rgF kd md fc cl cs P t c lamp) 0 z = z)) 0 41))), some (.int (lsv (lst (fun c => decide (lst (rgF kd md fc cl cs P t c lamp) 0 z = z)) 0 41))), some (.int (-1)), w]) (st' := []) (h' := mk M' T) (fun _ => rfl) ?_
    exact k1 M' w hM
  | succ k ih =>
    intro M' w hM hk k1
    have q7 := (lst_le (rgF kd md fc cl cs P t k lamp) z 0).2
    have q6 := cnt_le ((fun c => decide (lst (rgF kd md fc cl cs P t c lamp) 0 z = z))) (41 - (k + 1)) (k + 1)
    refine R_if 2 (c := (nI k) < 0) (t := 137) (f := 72) (L' := [some (.ref 64), some (.int (nI e)), some (.int (nI t)), some (.int (nI u)), some (.int (nI cold)), some (.int (nI (cnt (fun c => decide (lst (rgF kd md fc cl cs P t c lamp) 0 z = z)) (k + 1) (41 - (k + 1))))), some (.int (lsv (lst (fun c => decide (lst (rgF kd md fc cl cs P t c lamp) 0 z = z)) (k + 1) (41 - (k + 1))))), some (.int (nI k)), w]) (st' := []) (h' := mk M' T) (fun _ => rfl) (fun g1 => ?_) (fun g1 => ?_)
    · replace g1 : k < 0 := (nI_ltI (a := k) (b := 0) (by omega) (by omega)).mp g1
      omega
    · replace g1 : ¬ k < 0 := fun q => g1 ((nI_ltI (a := k) (b := 0) (by omega) (by omega)).mpr q)
      refine R_go 8 (pc' := 83) (L' := [some (.ref 64), some (.int (nI e)), some (.int (nI t)), some (.int (nI u)), some (.int (nI cold)), some (.int (nI (cnt (fun c => decide (lst (rgF kd md fc cl cs P t c lamp) 0 z = z)) (k + 1) (41 - (k + 1))))), some (.int (lsv (lst (fun c => decide (lst (rgF kd md fc cl cs P t c lamp) 0 z = z)) (k + 1) (41 - (k + 1))))), some (.int (nI k)), w]) (st' := [.int (nI t), .int (nI e), .ref 64]) (h' := mk (up M' 62 0 (nI k)) T) (fun _ => rfl) ?_
      refine R_callD (i := .invokevirtual 206) (kd := 0) (y := M_X8_rightOf) (as := [.ref 64, .int (nI e), .int (nI t)]) (r := []) (L0 := [some (.ref 64), some (.int (nI e)), some (.int (nI t)), none]) (v := some (.int (nI (lst (rgF kd md fc cl cs P t k lamp) 0 z)))) (h' := mk (up M' 62 0 (nI k)) T) (pc' := 86) (st' := [.int (nI (lst (rgF kd md fc cl cs P t k lamp) 0 z))]) rfl rfl rfl rfl rfl rfl (m_rightOf (M := up M' 62 0 (nI k)) (t := t) (cold := k) he ((coX_rd (coX_up hM) (by omega)).trans hz) z24 ((coX_rd (coX_up hM) (by omega)).trans hP) h8 (fun i hi => coX_rpF (coX_up hM) (hpn i hi)) (fun i hi => (coX_rd (coX_up hM) (by omega)).trans (hq i hi)) up_at ((coX_rd (coX_up hM) (by omega)).trans hl) (by omega) l1 ((coX_rd (coX_up hM) (by omega)).trans h0) (by omega)) ?_
      refine R_go 3 (pc' := 91) (L' := [some (.ref 64), some (.int (nI e)), some (.int (nI t)), some (.int (nI u)), some (.int (nI cold)), some (.int (nI (cnt (fun c => decide (lst (rgF kd md fc cl cs P t c lamp) 0 z = z)) (k + 1) (41 - (k + 1))))), some (.int (lsv (lst (fun c => decide (lst (rgF kd md fc cl cs P t c lamp) 0 z = z)) (k + 1) (41 - (k + 1))))), some (.int (nI k)), w]) (st' := [.int (nI e), .ref 69, .int (nI (lst (rgF kd md fc cl cs P t k lamp) 0 z))]) (h' := mk (up M' 62 0 (nI k)) T) (fun _ => rfl) ?_
      refine R_iald (c := 66) (n := 4) (j := e) rfl rfl (by omega) (by decide) ?_
      refine R_top (y := nI z) ((coX_rd (coX_up hM) (by omega)).trans hz) ?_
      refine R_ifn 1 (c := (nI (lst (rgF kd md fc cl cs P t k lamp) 0 z)) = (nI z)) (t := 99) (f := 95) (L' := [some (.ref 64), some (.int (nI e)), some (.int (nI t)), some (.int (nI u)), some (.int (nI cold)), some (.int (nI (cnt (fun c => decide (lst (rgF kd md fc cl cs P t c lamp) 0 z = z)) (k + 1) (41 - (k + 1))))), some (.int (lsv (lst (fun c => decide (lst (rgF kd md fc cl cs P t c lamp) 0 z = z)) (k + 1) (41 - (k + 1))))), some (.int (nI k)), w]) (st' := []) (h' := mk (up M' 62 0 (nI k)) T) (fun _ => rfl) (fun g2 => ?_) (fun g2 => ?_)
      · replace g2 : ¬ (lst (rgF kd md fc cl cs P t k lamp) 0 z) = z := fun q => g2 ((nI_eq (a := lst (rgF kd md fc cl cs P t k lamp) 0 z) (b := z) (by omega) (by omega)).mpr q)
        refine R_go 7 (pc' := 115) (L' := [some (.ref 64), some (.int (nI e)), some (.int (nI t)), some (.int (nI u)), some (.int (nI cold)), some (.int (nI (cnt (fun c => decide (lst (rgF kd md fc cl cs P t c lamp) 0 z = z)) (k + 1) (41 - (k + 1))))), some (.int (lsv (lst (fun c => decide (lst (rgF kd md fc cl cs P t c lamp) 0 z = z)) (k + 1) (41 - (k + 1))))), some (.int (nI k)), some (.int 0)]) (st' := [.int (nI (cnt (fun c => decide (lst (rgF kd md fc cl cs P t c lamp) 0 z = z)) (k + 1) (41 - (k + 1))) + 0)]) (h' := mk (up M' 62 0 (nI k)) T) (fun _ => rfl) ?_
        refine R_top (nI_add (cnt (fun c => decide (lst (rgF kd md fc cl cs P t c lamp) 0 z = z)) (k + 1) (41 - (k + 1))) 0) ?_
        refine R_go 5 (pc' := 131) (L' := [some (.ref 64), some (.int (nI e)), some (.int (nI t)), some (.int (nI u)), some (.int (nI cold)), some (.int (nI ((cnt (fun c => decide (lst (rgF kd md fc cl cs P t c lamp) 0 z = z)) (k + 1) (41 - (k + 1))) + 0))), some (.int (lsv (lst (fun c => decide (lst (rgF kd md fc cl cs P t c lamp) 0 z = z)) (k + 1) (41 - (k + 1))))), some (.int (nI k)), some (.int 0)]) (st' := []) (h' := mk (up M' 62 0 (nI k)) T) (fun _ => rfl) ?_
        refine R_stp (i := .iinc 7 (-1)) (len := 3) (pc' := 134) (L' := [some (.ref 64), some (.int (nI e)), some (.int (nI t)), some (.int (nI u)), some (.int (nI cold)), some (.int (nI ((cnt (fun c => decide (lst (rgF kd md fc cl cs P t c lamp) 0 z = z)) (k + 1) (41 - (k + 1))) + 0))), some (.int (lsv (lst (fun c => decide (lst (rgF kd md fc cl cs P t c lamp) 0 z = z)) (k + 1) (41 - (k + 1))))), some (.int ((nI k) + -1)), some (.int 0)]) (st' := []) (h' := mk (up M' 62 0 (nI k)) T) rfl rfl rfl rfl rfl ?_
        refine R_go 1 (pc' := 67) (L' := [some (.ref 64), some (.int (nI e)), some (.int (nI t)), some (.int (nI u)), some (.int (nI cold)), some (.int (nI ((cnt (fun c => decide (lst (rgF kd md fc cl cs P t c lamp) 0 z = z)) (k + 1) (41 - (k + 1))) + 0))), some (.int (lsv (lst (fun c => decide (lst (rgF kd md fc cl cs P t c lamp) 0 z = z)) (k + 1) (41 - (k + 1))))), some (.int ((nI k) + -1)), some (.int 0)]) (st' := []) (h' := mk (up M' 62 0 (nI k)) T) (fun _ => rfl) ?_
        rw [vD_pred]
        have e1 : 41 - k = 41 - (k + 1) + 1 := by omega
        have w := ih (up M' 62 0 (nI k)) (some (.int 0)) (coX_up hM) (by omega)
        rw [e1, cnt_f (f := (fun c => decide (lst (rgF kd md fc cl cs P t c lamp) 0 z = z))) (i := k) (by simp only [decide_eq_true_eq]; exact g2), lst_f (f := (fun c => decide (lst (rgF kd md fc cl cs P t c lamp) 0 z = z))) (i := k) (by simp only [decide_eq_true_eq]; exact g2)] at w
        exact w k1
      · replace g2 : (lst (rgF kd md fc cl cs P t k lamp) 0 z) = z := (nI_eq (a := lst (rgF kd md fc cl cs P t k lamp) 0 z) (b := z) (by omega) (by omega)).mp g2
        refine R_go 9 (pc' := 115) (L' := [some (.ref 64), some (.int (nI e)), some (.int (nI t)), some (.int (nI u)), some (.int (nI cold)), some (.int (nI (cnt (fun c => decide (lst (rgF kd md fc cl cs P t c lamp) 0 z = z)) (k + 1) (41 - (k + 1))))), some (.int (lsv (lst (fun c => decide (lst (rgF kd md fc cl cs P t c lamp) 0 z = z)) (k + 1) (41 - (k + 1))))), some (.int (nI k)), some (.int 1)]) (st' := [.int (nI (cnt (fun c => decide (lst (rgF kd md fc cl cs P t c lamp) 0 z = z)) (k + 1) (41 - (k + 1))) + 1)]) (h' := mk (up M' 62 0 (nI k)) T) (fun _ => rfl) ?_
        refine R_top (nI_add (cnt (fun c => decide (lst (rgF kd md fc cl cs P t c lamp) 0 z = z)) (k + 1) (41 - (k + 1))) 1) ?_
        refine R_go 6 (pc' := 131) (L' := [some (.ref 64), some (.int (nI e)), some (.int (nI t)), some (.int (nI u)), some (.int (nI cold)), some (.int (nI ((cnt (fun c => decide (lst (rgF kd md fc cl cs P t c lamp) 0 z = z)) (k + 1) (41 - (k + 1))) + 1))), some (.int (nI k)), some (.int (nI k)), some (.int 1)]) (st' := []) (h' := mk (up M' 62 0 (nI k)) T) (fun _ => rfl) ?_
        refine R_stp (i := .iinc 7 (-1)) (len := 3) (pc' := 134) (L' := [some (.ref 64), some (.int (nI e)), some (.int (nI t)), some (.int (nI u)), some (.int (nI cold)), some (.int (nI ((cnt (fun c => decide (lst (rgF kd md fc cl cs P t c lamp) 0 z = z)) (k + 1) (41 - (k + 1))) + 1))), some (.int (nI k)), some (.int ((nI k) + -1)), some (.int 1)]) (st' := []) (h' := mk (up M' 62 0 (nI k)) T) rfl rfl rfl rfl rfl ?_
        refine R_go 1 (pc' := 67) (L' := [some (.ref 64), some (.int (nI e)), some (.int (nI t)), some (.int (nI u)), some (.int (nI cold)), some (.int (nI ((cnt (fun c => decide (lst (rgF kd md fc cl cs P t c lamp) 0 z = z)) (k + 1) (41 - (k + 1))) + 1))), some (.int (nI k)), some (.int ((nI k) + -1)), some (.int 1)]) (st' := []) (h' := mk (up M' 62 0 (nI k)) T) (fun _ => rfl) ?_
        rw [vD_pred]
        have e1 : 41 - k = 41 - (k + 1) + 1 := by omega
        have w := ih (up M' 62 0 (nI k)) (some (.int 1)) (coX_up hM) (by omega)
        rw [e1, cnt_t (f := (fun c => decide (lst (rgF kd md fc cl cs P t c lamp) 0 z = z))) (i := k) (by simp only [decide_eq_true_eq]; exact g2), lst_t (f := (fun c => decide (lst (rgF kd md fc cl cs P t c lamp) 0 z = z))) (i := k) (by simp only [decide_eq_true_eq]; exact g2)] at w
        rw [lsv_p (show k < 41 by omega), Nat.add_comm 1] at w
        exact w k1
set_option maxRecDepth 100000 in
set_option maxHeartbeats 4000000 in
theorem x_fits_g0 {ro : xRO} {d : Nat} {M : xM} {T : Nat} {e : Nat} (he : e < 4) {z : Nat} (hz : M (52 + 2 * e) 2 = nI z) (z24 : z ≤ 24) {b : Nat} (hb : M (52 + 2 * e) 1 = nI b) (b32 : b ≤ 32) (b0 : ¬ b = 0) {P : Nat} (hP : M 1 6 = nI P) (h8 : P ≤ 8) {lamp : Nat} (hl : M 1 13 = nI lamp) (l1 : lamp ≤ 1) {kd md fc cl : Nat → Nat} {cs : Nat → Int32} (hpn : ∀ i, i < 8 → paneF M (3 + i) (kd i) (md i) (fc i) (cl i)) (hq : ∀ i v, i < 24 → v < 100 → (M (53 + 2 * e) i = nI v ↔ cs i = nI v)) {t : Nat} (ht : t ≤ 23) {x : Nat} (hx : cnt (fun c => decide (lst (rgF kd md fc cl cs P t c lamp) 0 z = z)) 0 41 = x) (x41 : x ≤ 41) : Rn ro (d + 90) M_X7_fits 0 [some (.ref 3), some (.int (nI e)), some (.int (nI t)), some (.int 0), none, none, none, none] [] (mk M T) (fun r h => r = some (.int (nI x)) ∧ h = mk M T) := by
  have q5 := (lst_le (fun c => decide (lst (rgF kd md fc cl cs P t c lamp) 0 z = z)) 41 0).2
  refine R_go 2 (pc' := 2) (L' := [some (.ref 3), some (.int (nI e)), some (.int (nI t)), some (.int 0), none, none, none, none]) (st' := [.int (nI e), .ref 3]) (h' := mk M T) (fun _ => rfl) ?_
  refine R_callD (i := .invokevirtual 180) (kd := 0) (y := M_X7_sheetAt) (as := [.ref 3, .int (nI e)]) (r := []) (L0 := [some (.ref 3), some (.int (nI e))]) (v := some (.ref (52 + 2 * e + 3))) (h' := mk M T) (pc' := 5) (st' := [.ref (52 + 2 * e + 3)]) rfl rfl rfl rfl rfl rfl (c_sheetAt_in (n := e) (by omega)) ?_
  refine R_go 6 (pc' := 16) (L' := [some (.ref 3), some (.int (nI e)), some (.int (nI t)), some (.int 0), some (.ref (52 + 2 * e + 3)), none, none, none]) (st' := [.int 23, .int 0, .int (nI t)]) (h' := mk M T) (fun _ => rfl) ?_
  refine R_call2 (i := .invokestatic 78) (kd := 1) (y := M_X7_within) (as := [.int (nI t), .int 0, .int 23]) (r := []) (L0 := [some (.int (nI t)), some (.int 0), some (.int 23)]) (v1 := some (.int 1)) (v2 := some (.int 0)) (h1' := mk M T) (h2' := mk M T) (pc' := 19) (st1 := [.int 1]) (st2 := [.int 0]) rfl rfl rfl rfl rfl rfl (c_within) (fun g1 => ?_) (fun g1 => ?_)
  · refine R_go 4 (pc' := 25) (L' := [some (.ref 3), some (.int (nI e)), some (.int (nI t)), some (.int 0), some (.ref (52 + 2 * e + 3)), none, none, none]) (st' := [.int 1, .int 0, .int 0]) (h' := mk M T) (fun _ => rfl) ?_
    refine R_call2 (i := .invokestatic 78) (kd := 1) (y := M_X7_within) (as := [.int 0, .int 0, .int 1]) (r := []) (L0 := [some (.int 0), some (.int 0), some (.int 1)]) (v1 := some (.int 1)) (v2 := some (.int 0)) (h1' := mk M T) (h2' := mk M T) (pc' := 28) (st1 := [.int 1]) (st2 := [.int 0]) rfl rfl rfl rfl rfl rfl (c_within) (fun g2 => ?_) (fun g2 => ?_)
    · refine R_go 2 (pc' := 39) (L' := [some (.ref 3), some (.int (nI e)), some (.int (nI t)), some (.int 0), some (.ref (52 + 2 * e + 3)), none, none, none]) (st' := [.ref (52 + 2 * e + 3)]) (h' := mk M T) (fun _ => rfl) ?_
      refine R_getI (i := 237) (j := 1) (c := 52 + 2 * e) (sh_sheet (by omega)) rfl rfl rfl ?_
      refine R_top (y := nI b) (hb) ?_
      refine R_ifn 1 (c := (nI b) = 0) (t := 51) (f := 45) (L' := [some (.ref 3), some (.int (nI e)), some (.int (nI t)), some (.int 0), some (.ref (52 + 2 * e + 3)), none, none, none]) (st' := []) (h' := mk M T) (fun _ => rfl) (fun g3 => ?_) (fun g3 => ?_)
      · replace g3 : ¬ b = 0 := fun q => g3 ((nI_eq (a := b) (b := 0) (by omega) (by omega)).mpr q)
        refine R_go 6 (pc' := 60) (L' := [some (.ref 3), some (.int (nI e)), some (.int (nI t)), some (.int 0), some (.ref (52 + 2 * e + 3)), some (.int 0), some (.int (-1)), some (.int 0)]) (st' := []) (h' := mk M T) (fun _ => rfl) ?_
        refine lp_x_fits he hz z24 hP h8 hl l1 hpn hq ht (u := 0) (by omega) 41 0 0 41 rfl (Nat.le_refl 0) (Or.inl rfl) ?_
        rw [Nat.zero_add, if_neg (Nat.lt_irrefl 41), hx]
        refine R_ret 4 (pcr := 116) (v := some (.int (nI x))) (h' := mk M T) (fun _ => rfl) ?_
        exact ⟨rfl, rfl⟩
      · replace g3 : b = 0 := (nI_eq (a := b) (b := 0) (by omega) (by omega)).mp g3
        omega
    · exact absurd (by decide) g2
  · exact absurd (nI_in2 (a := 0) (b := 23) (by omega) (by omega) (by omega)) g1
set_option maxRecDepth 100000 in
set_option maxHeartbeats 4000000 in
theorem m_fits_g0 {ro : xRO} {d : Nat} {M : xM} {T : Nat} {e : Nat} (he : e < 4) {z : Nat} (hz : M 66 e = nI z) (z24 : z ≤ 24) {b : Nat} (hb : M 65 e = nI b) (b32 : b ≤ 32) (b0 : ¬ b = 0) {P : Nat} (hP : M 62 6 = nI P) (h8 : P ≤ 8) {kd md fc cl : Nat → Nat} {cs : Nat → Int32} (hpn : ∀ i, i < 8 → rpF M i (kd i) (md i) (fc i) (cl i)) (hq : ∀ i, i < 24 → M 67 (24 * e + i) = cs i) {cold lamp : Nat} (hc : M 62 0 = nI cold) (hl : M 62 2 = nI lamp) (c40 : cold ≤ 40) (l1 : lamp ≤ 1) (h0 : M 61 7 = 0) {t : Nat} (ht : t ≤ 23) {x : Nat} (hx : cnt (fun c => decide (lst (rgF kd md fc cl cs P t c lamp) 0 z = z)) 0 41 = x) (x41 : x ≤ 41) : Rn ro (d + 90) M_X8_fits 0 [some (.ref 64), some (.int (nI e)), some (.int (nI t)), some (.int 0), none, none, none, none, none] [] (mk M T) (fun r h => r = some (.int (nI x)) ∧ h = mk M T) := by
  have q5 := (lst_le (fun c => decide (lst (rgF kd md fc cl cs P t c lamp) 0 z = z)) 41 0).2
  refine R_go 1 (pc' := 1) (L' := [some (.ref 64), some (.int (nI e)), some (.int (nI t)), some (.int 0), none, none, none, none, none]) (st' := [.int (nI e)]) (h' := mk M T) (fun _ => rfl) ?_
  refine R_call2 (i := .invokestatic 168) (kd := 1) (y := M_X8_isSheet) (as := [.int (nI e)]) (r := []) (L0 := [some (.int (nI e))]) (v1 := some (.int 1)) (v2 := some (.int 0)) (h1' := mk M T) (h2' := mk M T) (pc' := 4) (st1 := [.int 1]) (st2 := [.int 0]) rfl rfl rfl rfl rfl rfl (m_isSheet) (fun g1 => ?_) (fun g1 => ?_)
  · refine R_go 4 (pc' := 11) (L' := [some (.ref 64), some (.int (nI e)), some (.int (nI t)), some (.int 0), none, none, none, none, none]) (st' := [.int 23, .int 0, .int (nI t)]) (h' := mk M T) (fun _ => rfl) ?_
    refine R_call2 (i := .invokestatic 53) (kd := 1) (y := M_X8_in) (as := [.int (nI t), .int 0, .int 23]) (r := []) (L0 := [some (.int (nI t)), some (.int 0), some (.int 23)]) (v1 := some (.int 1)) (v2 := some (.int 0)) (h1' := mk M T) (h2' := mk M T) (pc' := 14) (st1 := [.int 1]) (st2 := [.int 0]) rfl rfl rfl rfl rfl rfl (m_in) (fun g2 => ?_) (fun g2 => ?_)
    · refine R_go 4 (pc' := 20) (L' := [some (.ref 64), some (.int (nI e)), some (.int (nI t)), some (.int 0), none, none, none, none, none]) (st' := [.int 1, .int 0, .int 0]) (h' := mk M T) (fun _ => rfl) ?_
      refine R_call2 (i := .invokestatic 53) (kd := 1) (y := M_X8_in) (as := [.int 0, .int 0, .int 1]) (r := []) (L0 := [some (.int 0), some (.int 0), some (.int 1)]) (v1 := some (.int 1)) (v2 := some (.int 0)) (h1' := mk M T) (h2' := mk M T) (pc' := 23) (st1 := [.int 1]) (st2 := [.int 0]) rfl rfl rfl rfl rfl rfl (m_in) (fun g3 => ?_) (fun g3 => ?_)
      · refine R_go 4 (pc' := 38) (L' := [some (.ref 64), some (.int (nI e)), some (.int (nI t)), some (.int 0), none, none, none, none, none]) (st' := [.int (nI e), .ref 68]) (h' := mk M T) (fun _ => rfl) ?_
        refine R_iald (c := 65) (n := 4) (j := e) rfl rfl (by omega) (by decide) ?_
        refine R_top (y := nI b) (hb) ?_
        refine R_ifn 1 (c := (nI b) = 0) (t := 49) (f := 42) (L' := [some (.ref 64), some (.int (nI e)), some (.int (nI t)), some (.int 0), none, none, none, none, none]) (st' := []) (h' := mk M T) (fun _ => rfl) (fun g4 => ?_) (fun g4 => ?_)
        · replace g4 : ¬ b = 0 := fun q => g4 ((nI_eq (a := b) (b := 0) (by omega) (by omega)).mpr q)
          refine R_go 4 (pc' := 55) (L' := [some (.ref 64), some (.int (nI e)), some (.int (nI t)), some (.int 0), none, none, none, none, none]) (st' := [.int (M 62 0)]) (h' := mk M T) (fun _ => rfl) ?_
          refine R_top (y := nI cold) (hc) ?_
          refine R_go 7 (pc' := 67) (L' := [some (.ref 64), some (.int (nI e)), some (.int (nI t)), some (.int 0), some (.int (nI cold)), some (.int 0), some (.int (-1)), some (.int 40), none]) (st' := []) (h' := mk M T) (fun _ => rfl) ?_
          refine lp_m_fits he hz z24 hb b32 b0 hP h8 hpn hq hc hl c40 l1 h0 ht (u := 0) (by omega) 41 M none coX_refl (Nat.le_refl _) (fun M' w hM => ?_)
          rw [hx]
          refine R_ret 10 (pcr := 170) (v := some (.int (nI x))) (h' := mk (up M' 62 0 (nI cold)) T) (fun _ => rfl) ?_
          exact ⟨rfl, by rw [coX_back hM hc]⟩
        · replace g4 : b = 0 := (nI_eq (a := b) (b := 0) (by omega) (by omega)).mp g4
          omega
      · exact absurd (by decide) g3
    · exact absurd (nI_in2 (a := 0) (b := 23) (by omega) (by omega) (by omega)) g2
  · exact absurd (nI_in2 (a := 0) (b := 3) (by omega) (by omega) (by omega)) g1
set_option maxRecDepth 100000 in
set_option maxHeartbeats 4000000 in
theorem x_fits_g1 {ro : xRO} {d : Nat} {M : xM} {T : Nat} {e : Nat} (he : e < 4) {z : Nat} (hz : M (52 + 2 * e) 2 = nI z) (z24 : z ≤ 24) {b : Nat} (hb : M (52 + 2 * e) 1 = nI b) (b32 : b ≤ 32) (b0 : ¬ b = 0) {P : Nat} (hP : M 1 6 = nI P) (h8 : P ≤ 8) {lamp : Nat} (hl : M 1 13 = nI lamp) (l1 : lamp ≤ 1) {kd md fc cl : Nat → Nat} {cs : Nat → Int32} (hpn : ∀ i, i < 8 → paneF M (3 + i) (kd i) (md i) (fc i) (cl i)) (hq : ∀ i v, i < 24 → v < 100 → (M (53 + 2 * e) i = nI v ↔ cs i = nI v)) {t : Nat} (ht : t ≤ 23) {x : Nat} (hx : cnt (fun c => decide (lst (rgF kd md fc cl cs P t c lamp) 0 z = z)) 0 41 = x) (x41 : x ≤ 41) (hy : lst (fun c => decide (lst (rgF kd md fc cl cs P t c lamp) 0 z = z)) 0 41 < 41) (x0 : 0 < x) : Rn ro (d + 90) M_X7_fits 0 [some (.ref 3), some (.int (nI e)), some (.int (nI t)), some (.int 1), none, none, none, none] [] (mk M T) (fun r h => r = some (.int (nI (lst (fun c => decide (lst (rgF kd md fc cl cs P t c lamp) 0 z = z)) 0 41))) ∧ h = mk M T) := by
  have q5 := (lst_le (fun c => decide (lst (rgF kd md fc cl cs P t c lamp) 0 z = z)) 41 0).2
  refine R_go 2 (pc' := 2) (L' := [some (.ref 3), some (.int (nI e)), some (.int (nI t)), some (.int 1), none, none, none, none]) (st' := [.int (nI e), .ref 3]) (h' := mk M T) (fun _ => rfl) ?_
  refine R_callD (i := .invokevirtual 180) (kd := 0) (y := M_X7_sheetAt) (as := [.ref 3, .int (nI e)]) (r := []) (L0 := [some (.ref 3), some (.int (nI e))]) (v := some (.ref (52 + 2 * e + 3))) (h' := mk M T) (pc' := 5) (st' := [.ref (52 + 2 * e + 3)]) rfl rfl rfl rfl rfl rfl (c_sheetAt_in (n := e) (by omega)) ?_
  refine R_go 6 (pc' := 16) (L' := [some (.ref 3), some (.int (nI e)), some (.int (nI t)), some (.int 1), some (.ref (52 + 2 * e + 3)), none, none, none]) (st' := [.int 23, .int 0, .int (nI t)]) (h' := mk M T) (fun _ => rfl) ?_
  refine R_call2 (i := .invokestatic 78) (kd := 1) (y := M_X7_within) (as := [.int (nI t), .int 0, .int 23]) (r := []) (L0 := [some (.int (nI t)), some (.int 0), some (.int 23)]) (v1 := some (.int 1)) (v2 := some (.int 0)) (h1' := mk M T) (h2' := mk M T) (pc' := 19) (st1 := [.int 1]) (st2 := [.int 0]) rfl rfl rfl rfl rfl rfl (c_within) (fun g1 => ?_) (fun g1 => ?_)
  · refine R_go 4 (pc' := 25) (L' := [some (.ref 3), some (.int (nI e)), some (.int (nI t)), some (.int 1), some (.ref (52 + 2 * e + 3)), none, none, none]) (st' := [.int 1, .int 0, .int 1]) (h' := mk M T) (fun _ => rfl) ?_
    refine R_call2 (i := .invokestatic 78) (kd := 1) (y := M_X7_within) (as := [.int 1, .int 0, .int 1]) (r := []) (L0 := [some (.int 1), some (.int 0), some (.int 1)]) (v1 := some (.int 1)) (v2 := some (.int 0)) (h1' := mk M T) (h2' := mk M T) (pc' := 28) (st1 := [.int 1]) (st2 := [.int 0]) rfl rfl rfl rfl rfl rfl (c_within) (fun g2 => ?_) (fun g2 => ?_)
    · refine R_go 2 (pc' := 39) (L' := [some (.ref 3), some (.int (nI e)), some (.int (nI t)), some (.int 1), some (.ref (52 + 2 * e + 3)), none, none, none]) (st' := [.ref (52 + 2 * e + 3)]) (h' := mk M T) (fun _ => rfl) ?_
      refine R_getI (i := 237) (j := 1) (c := 52 + 2 * e) (sh_sheet (by omega)) rfl rfl rfl ?_
      refine R_top (y := nI b) (hb) ?_
      refine R_ifn 1 (c := (nI b) = 0) (t := 51) (f := 45) (L' := [some (.ref 3), some (.int (nI e)), some (.int (nI t)), some (.int 1), some (.ref (52 + 2 * e + 3)), none, none, none]) (st' := []) (h' := mk M T) (fun _ => rfl) (fun g3 => ?_) (fun g3 => ?_)
      · replace g3 : ¬ b = 0 := fun q => g3 ((nI_eq (a := b) (b := 0) (by omega) (by omega)).mpr q)
        refine R_go 6 (pc' := 60) (L' := [some (.ref 3), some (.int (nI e)), some (.int (nI t)), some (.int 1), some (.ref (52 + 2 * e + 3)), some (.int 0), some (.int (-1)), some (.int 0)]) (st' := []) (h' := mk M T) (fun _ => rfl) ?_
        refine lp_x_fits he hz z24 hP h8 hl l1 hpn hq ht (u := 1) (by omega) 41 0 0 41 rfl (Nat.le_refl 0) (Or.inl rfl) ?_
        rw [Nat.zero_add, if_neg (Nat.lt_irrefl 41), hx, lsv_p hy]
        refine R_if 4 (c := (nI x) ≤ 0) (t := 127) (f := 122) (L' := [some (.ref 3), some (.int (nI e)), some (.int (nI t)), some (.int 1), some (.ref (52 + 2 * e + 3)), some (.int (nI x)), some (.int (nI (lst (fun c => decide (lst (rgF kd md fc cl cs P t c lamp) 0 z = z)) 0 41))), some (.int 41)]) (st' := []) (h' := mk M T) (fun _ => rfl) (fun g4 => ?_) (fun g4 => ?_)
        · replace g4 : x ≤ 0 := (nI_leI (a := x) (b := 0) (by omega) (by omega)).mp g4
          omega
        · replace g4 : ¬ x ≤ 0 := fun q => g4 ((nI_leI (a := x) (b := 0) (by omega) (by omega)).mpr q)
          refine R_ret 3 (pcr := 132) (v := some (.int (nI (lst (fun c => decide (lst (rgF kd md fc cl cs P t c lamp) 0 z = z)) 0 41)))) (h' := mk M T) (fun _ => rfl) ?_
          exact ⟨rfl, rfl⟩
      · replace g3 : b = 0 := (nI_eq (a := b) (b := 0) (by omega) (by omega)).mp g3
        omega
    · exact absurd (by decide) g2
  · exact absurd (nI_in2 (a := 0) (b := 23) (by omega) (by omega) (by omega)) g1
set_option maxRecDepth 100000 in
set_option maxHeartbeats 4000000 in
theorem m_fits_g1 {ro : xRO} {d : Nat} {M : xM} {T : Nat} {e : Nat} (he : e < 4) {z : Nat} (hz : M 66 e = nI z) (z24 : z ≤ 24) {b : Nat} (hb : M 65 e = nI b) (b32 : b ≤ 32) (b0 : ¬ b = 0) {P : Nat} (hP : M 62 6 = nI P) (h8 : P ≤ 8) {kd md fc cl : Nat → Nat} {cs : Nat → Int32} (hpn : ∀ i, i < 8 → rpF M i (kd i) (md i) (fc i) (cl i)) (hq : ∀ i, i < 24 → M 67 (24 * e + i) = cs i) {cold lamp : Nat} (hc : M 62 0 = nI cold) (hl : M 62 2 = nI lamp) (c40 : cold ≤ 40) (l1 : lamp ≤ 1) (h0 : M 61 7 = 0) {t : Nat} (ht : t ≤ 23) {x : Nat} (hx : cnt (fun c => decide (lst (rgF kd md fc cl cs P t c lamp) 0 z = z)) 0 41 = x) (x41 : x ≤ 41) (hy : lst (fun c => decide (lst (rgF kd md fc cl cs P t c lamp) 0 z = z)) 0 41 < 41) (x0 : 0 < x) : Rn ro (d + 90) M_X8_fits 0 [some (.ref 64), some (.int (nI e)), some (.int (nI t)), some (.int 1), none, none, none, none, none] [] (mk M T) (fun r h => r = some (.int (nI (lst (fun c => decide (lst (rgF kd md fc cl cs P t c lamp) 0 z = z)) 0 41))) ∧ h = mk M T) := by
  have q5 := (lst_le (fun c => decide (lst (rgF kd md fc cl cs P t c lamp) 0 z = z)) 41 0).2
  refine R_go 1 (pc' := 1) (L' := [some (.ref 64), some (.int (nI e)), some (.int (nI t)), some (.int 1), none, none, none, none, none]) (st' := [.int (nI e)]) (h' := mk M T) (fun _ => rfl) ?_
  refine R_call2 (i := .invokestatic 168) (kd := 1) (y := M_X8_isSheet) (as := [.int (nI e)]) (r := []) (L0 := [some (.int (nI e))]) (v1 := some (.int 1)) (v2 := some (.int 0)) (h1' := mk M T) (h2' := mk M T) (pc' := 4) (st1 := [.int 1]) (st2 := [.int 0]) rfl rfl rfl rfl rfl rfl (m_isSheet) (fun g1 => ?_) (fun g1 => ?_)
  · refine R_go 4 (pc' := 11) (L' := [some (.ref 64), some (.int (nI e)), some (.int (nI t)), some (.int 1), none, none, none, none, none]) (st' := [.int 23, .int 0, .int (nI t)]) (h' := mk M T) (fun _ => rfl) ?_
    refine R_call2 (i := .invokestatic 53) (kd := 1) (y := M_X8_in) (as := [.int (nI t), .int 0, .int 23]) (r := []) (L0 := [some (.int (nI t)), some (.int 0), some (.int 23)]) (v1 := some (.int 1)) (v2 := some (.int 0)) (h1' := mk M T) (h2' := mk M T) (pc' := 14) (st1 := [.int 1]) (st2 := [.int 0]) rfl rfl rfl rfl rfl rfl (m_in) (fun g2 => ?_) (fun g2 => ?_)
    · refine R_go 4 (pc' := 20) (L' := [some (.ref 64), some (.int (nI e)), some (.int (nI t)), some (.int 1), none, none, none, none, none]) (st' := [.int 1, .int 0, .int 1]) (h' := mk M T) (fun _ => rfl) ?_
      refine R_call2 (i := .invokestatic 53) (kd := 1) (y := M_X8_in) (as := [.int 1, .int 0, .int 1]) (r := []) (L0 := [some (.int 1), some (.int 0), some (.int 1)]) (v1 := some (.int 1)) (v2 := some (.int 0)) (h1' := mk M T) (h2' := mk M T) (pc' := 23) (st1 := [.int 1]) (st2 := [.int 0]) rfl rfl rfl rfl rfl rfl (m_in) (fun g3 => ?_) (fun g3 => ?_)
      · refine R_go 4 (pc' := 38) (L' := [some (.ref 64), some (.int (nI e)), some (.int (nI t)), some (.int 1), none, none, none, none, none]) (st' := [.int (nI e), .ref 68]) (h' := mk M T) (fun _ => rfl) ?_
        refine R_iald (c := 65) (n := 4) (j := e) rfl rfl (by omega) (by decide) ?_
        refine R_top (y := nI b) (hb) ?_
        refine R_ifn 1 (c := (nI b) = 0) (t := 49) (f := 42) (L' := [some (.ref 64), some (.int (nI e)), some (.int (nI t)), some (.int 1), none, none, none, none, none]) (st' := []) (h' := mk M T) (fun _ => rfl) (fun g4 => ?_) (fun g4 => ?_)
        · replace g4 : ¬ b = 0 := fun q => g4 ((nI_eq (a := b) (b := 0) (by omega) (by omega)).mpr q)
          refine R_go 4 (pc' := 55) (L' := [some (.ref 64), some (.int (nI e)), some (.int (nI t)), some (.int 1), none, none, none, none, none]) (st' := [.int (M 62 0)]) (h' := mk M T) (fun _ => rfl) ?_
          refine R_top (y := nI cold) (hc) ?_
          refine R_go 7 (pc' := 67) (L' := [some (.ref 64), some (.int (nI e)), some (.int (nI t)), some (.int 1), some (.int (nI cold)), some (.int 0), some (.int (-1)), some (.int 40), none]) (st' := []) (h' := mk M T) (fun _ => rfl) ?_
          refine lp_m_fits he hz z24 hb b32 b0 hP h8 hpn hq hc hl c40 l1 h0 ht (u := 1) (by omega) 41 M none coX_refl (Nat.le_refl _) (fun M' w hM => ?_)
          rw [hx, lsv_p hy]
          refine R_if 9 (c := 0 ≤ (nI (lst (fun c => decide (lst (rgF kd md fc cl cs P t c lamp) 0 z = z)) 0 41))) (t := 168) (f := 159) (L' := [some (.ref 64), some (.int (nI e)), some (.int (nI t)), some (.int 1), some (.int (nI cold)), some (.int (nI x)), some (.int (nI (lst (fun c => decide (lst (rgF kd md fc cl cs P t c lamp) 0 z = z)) 0 41))), some (.int (-1)), w]) (st' := []) (h' := mk (up M' 62 0 (nI cold)) T) (fun _ => rfl) (fun g5 => ?_) (fun g5 => ?_)
          · replace g5 : 0 ≤ (lst (fun c => decide (lst (rgF kd md fc cl cs P t c lamp) 0 z = z)) 0 41) := (nI_leI (a := 0) (b := lst (fun c => decide (lst (rgF kd md fc cl cs P t c lamp) 0 z = z)) 0 41) (by omega) (by omega)).mp g5
            refine R_ret 2 (pcr := 170) (v := some (.int (nI (lst (fun c => decide (lst (rgF kd md fc cl cs P t c lamp) 0 z = z)) 0 41)))) (h' := mk (up M' 62 0 (nI cold)) T) (fun _ => rfl) ?_
            exact ⟨rfl, by rw [coX_back hM hc]⟩
          · replace g5 : ¬ 0 ≤ (lst (fun c => decide (lst (rgF kd md fc cl cs P t c lamp) 0 z = z)) 0 41) := fun q => g5 ((nI_leI (a := 0) (b := lst (fun c => decide (lst (rgF kd md fc cl cs P t c lamp) 0 z = z)) 0 41) (by omega) (by omega)).mpr q)
            omega
        · replace g4 : b = 0 := (nI_eq (a := b) (b := 0) (by omega) (by omega)).mp g4
          omega
      · exact absurd (by decide) g3
    · exact absurd (nI_in2 (a := 0) (b := 23) (by omega) (by omega) (by omega)) g2
  · exact absurd (nI_in2 (a := 0) (b := 3) (by omega) (by omega) (by omega)) g1
set_option maxRecDepth 100000 in
set_option maxHeartbeats 4000000 in
theorem x_fits_g2 {ro : xRO} {d : Nat} {M : xM} {T : Nat} {e : Nat} (he : e < 4) {z : Nat} (hz : M (52 + 2 * e) 2 = nI z) (z24 : z ≤ 24) {b : Nat} (hb : M (52 + 2 * e) 1 = nI b) (b32 : b ≤ 32) (b0 : ¬ b = 0) {P : Nat} (hP : M 1 6 = nI P) (h8 : P ≤ 8) {lamp : Nat} (hl : M 1 13 = nI lamp) (l1 : lamp ≤ 1) {kd md fc cl : Nat → Nat} {cs : Nat → Int32} (hpn : ∀ i, i < 8 → paneF M (3 + i) (kd i) (md i) (fc i) (cl i)) (hq : ∀ i v, i < 24 → v < 100 → (M (53 + 2 * e) i = nI v ↔ cs i = nI v)) {t : Nat} (ht : t ≤ 23) {x : Nat} (hx : cnt (fun c => decide (lst (rgF kd md fc cl cs P t c lamp) 0 z = z)) 0 41 = x) (x41 : x ≤ 41) (hy : lst (fun c => decide (lst (rgF kd md fc cl cs P t c lamp) 0 z = z)) 0 41 = 41) (x0 : x = 0) : Rn ro (d + 90) M_X7_fits 0 [some (.ref 3), some (.int (nI e)), some (.int (nI t)), some (.int 1), none, none, none, none] [] (mk M T) (fun r h => r = some (.int (-1000000002)) ∧ h = mk (up M 60 2 (M 60 2 + 1)) T) := by
  have q5 := (lst_le (fun c => decide (lst (rgF kd md fc cl cs P t c lamp) 0 z = z)) 41 0).2
  refine R_go 2 (pc' := 2) (L' := [some (.ref 3), some (.int (nI e)), some (.int (nI t)), some (.int 1), none, none, none, none]) (st' := [.int (nI e), .ref 3]) (h' := mk M T) (fun _ => rfl) ?_
  refine R_callD (i := .invokevirtual 180) (kd := 0) (y := M_X7_sheetAt) (as := [.ref 3, .int (nI e)]) (r := []) (L0 := [some (.ref 3), some (.int (nI e))]) (v := some (.ref (52 + 2 * e + 3))) (h' := mk M T) (pc' := 5) (st' := [.ref (52 + 2 * e + 3)]) rfl rfl rfl rfl rfl rfl (c_sheetAt_in (n := e) (by omega)) ?_
  refine R_go 6 (pc' := 16) (L' := [some (.ref 3), some (.int (nI e)), some (.int (nI t)), some (.int 1), some (.ref (52 + 2 * e + 3)), none, none, none]) (st' := [.int 23, .int 0, .int (nI t)]) (h' := mk M T) (fun _ => rfl) ?_
  refine R_call2 (i := .invokestatic 78) (kd := 1) (y := M_X7_within) (as := [.int (nI t), .int 0, .int 23]) (r := []) (L0 := [some (.int (nI t)), some (.int 0), some (.int 23)]) (v1 := some (.int 1)) (v2 := some (.int 0)) (h1' := mk M T) (h2' := mk M T) (pc' := 19) (st1 := [.int 1]) (st2 := [.int 0]) rfl rfl rfl rfl rfl rfl (c_within) (fun g1 => ?_) (fun g1 => ?_)
  · refine R_go 4 (pc' := 25) (L' := [some (.ref 3), some (.int (nI e)), some (.int (nI t)), some (.int 1), some (.ref (52 + 2 * e + 3)), none, none, none]) (st' := [.int 1, .int 0, .int 1]) (h' := mk M T) (fun _ => rfl) ?_
    refine R_call2 (i := .invokestatic 78) (kd := 1) (y := M_X7_within) (as := [.int 1, .int 0, .int 1]) (r := []) (L0 := [some (.int 1), some (.int 0), some (.int 1)]) (v1 := some (.int 1)) (v2 := some (.int 0)) (h1' := mk M T) (h2' := mk M T) (pc' := 28) (st1 := [.int 1]) (st2 := [.int 0]) rfl rfl rfl rfl rfl rfl (c_within) (fun g2 => ?_) (fun g2 => ?_)
    · refine R_go 2 (pc' := 39) (L' := [some (.ref 3), some (.int (nI e)), some (.int (nI t)), some (.int 1), some (.ref (52 + 2 * e + 3)), none, none, none]) (st' := [.ref (52 + 2 * e + 3)]) (h' := mk M T) (fun _ => rfl) ?_
      refine R_getI (i := 237) (j := 1) (c := 52 + 2 * e) (sh_sheet (by omega)) rfl rfl rfl ?_
      refine R_top (y := nI b) (hb) ?_
      refine R_ifn 1 (c := (nI b) = 0) (t := 51) (f := 45) (L' := [some (.ref 3), some (.int (nI e)), some (.int (nI t)), some (.int 1), some (.ref (52 + 2 * e + 3)), none, none, none]) (st' := []) (h' := mk M T) (fun _ => rfl) (fun g3 => ?_) (fun g3 => ?_)
      · replace g3 : ¬ b = 0 := fun q => g3 ((nI_eq (a := b) (b := 0) (by omega) (by omega)).mpr q)
        refine R_go 6 (pc' := 60) (L' := [some (.ref 3), some (.int (nI e)), some (.int (nI t)), some (.int 1), some (.ref (52 + 2 * e + 3)), some (.int 0), some (.int (-1)), some (.int 0)]) (st' := []) (h' := mk M T) (fun _ => rfl) ?_
        refine lp_x_fits he hz z24 hP h8 hl l1 hpn hq ht (u := 1) (by omega) 41 0 0 41 rfl (Nat.le_refl 0) (Or.inl rfl) ?_
        rw [Nat.zero_add, if_neg (Nat.lt_irrefl 41), hx, lsv_n hy]
        refine R_if 4 (c := (nI x) ≤ 0) (t := 127) (f := 122) (L' := [some (.ref 3), some (.int (nI e)), some (.int (nI t)), some (.int 1), some (.ref (52 + 2 * e + 3)), some (.int (nI x)), some (.int (-1)), some (.int 41)]) (st' := []) (h' := mk M T) (fun _ => rfl) (fun g4 => ?_) (fun g4 => ?_)
        · replace g4 : x ≤ 0 := (nI_leI (a := x) (b := 0) (by omega) (by omega)).mp g4
          refine R_go 2 (pc' := 129) (L' := [some (.ref 3), some (.int (nI e)), some (.int (nI t)), some (.int 1), some (.ref (52 + 2 * e + 3)), some (.int (nI x)), some (.int (-1)), some (.int 41)]) (st' := [.int 2, .ref 3]) (h' := mk M T) (fun _ => rfl) ?_
          refine R_callD (i := .invokevirtual 75) (kd := 0) (y := M_X7_error) (as := [.ref 3, .int 2]) (r := []) (L0 := [some (.ref 3), some (.int 2)]) (v := some (.int (-1000000002))) (h' := mk (up M 60 2 (M 60 2 + 1)) T) (pc' := 132) (st' := [.int (-1000000002)]) rfl rfl rfl rfl rfl rfl (c_error_2) ?_
          refine R_ret 1 (pcr := 132) (v := some (.int (-1000000002))) (h' := mk (up M 60 2 (M 60 2 + 1)) T) (fun _ => rfl) ?_
          exact ⟨rfl, rfl⟩
        · replace g4 : ¬ x ≤ 0 := fun q => g4 ((nI_leI (a := x) (b := 0) (by omega) (by omega)).mpr q)
          omega
      · replace g3 : b = 0 := (nI_eq (a := b) (b := 0) (by omega) (by omega)).mp g3
        omega
    · exact absurd (by decide) g2
  · exact absurd (nI_in2 (a := 0) (b := 23) (by omega) (by omega) (by omega)) g1
set_option maxRecDepth 100000 in
set_option maxHeartbeats 4000000 in
theorem m_fits_g2 {ro : xRO} {d : Nat} {M : xM} {T : Nat} {e : Nat} (he : e < 4) {z : Nat} (hz : M 66 e = nI z) (z24 : z ≤ 24) {b : Nat} (hb : M 65 e = nI b) (b32 : b ≤ 32) (b0 : ¬ b = 0) {P : Nat} (hP : M 62 6 = nI P) (h8 : P ≤ 8) {kd md fc cl : Nat → Nat} {cs : Nat → Int32} (hpn : ∀ i, i < 8 → rpF M i (kd i) (md i) (fc i) (cl i)) (hq : ∀ i, i < 24 → M 67 (24 * e + i) = cs i) {cold lamp : Nat} (hc : M 62 0 = nI cold) (hl : M 62 2 = nI lamp) (c40 : cold ≤ 40) (l1 : lamp ≤ 1) (h0 : M 61 7 = 0) {t : Nat} (ht : t ≤ 23) {x : Nat} (hx : cnt (fun c => decide (lst (rgF kd md fc cl cs P t c lamp) 0 z = z)) 0 41 = x) (x41 : x ≤ 41) (hy : lst (fun c => decide (lst (rgF kd md fc cl cs P t c lamp) 0 z = z)) 0 41 = 41) (x0 : x = 0) : Rn ro (d + 90) M_X8_fits 0 [some (.ref 64), some (.int (nI e)), some (.int (nI t)), some (.int 1), none, none, none, none, none] [] (mk M T) (fun r h => r = some (.int (-1000000002)) ∧ h = mk (up M 64 2 (M 64 2 + 1)) T) := by
  have q5 := (lst_le (fun c => decide (lst (rgF kd md fc cl cs P t c lamp) 0 z = z)) 41 0).2
  refine R_go 1 (pc' := 1) (L' := [some (.ref 64), some (.int (nI e)), some (.int (nI t)), some (.int 1), none, none, none, none, none]) (st' := [.int (nI e)]) (h' := mk M T) (fun _ => rfl) ?_
  refine R_call2 (i := .invokestatic 168) (kd := 1) (y := M_X8_isSheet) (as := [.int (nI e)]) (r := []) (L0 := [some (.int (nI e))]) (v1 := some (.int 1)) (v2 := some (.int 0)) (h1' := mk M T) (h2' := mk M T) (pc' := 4) (st1 := [.int 1]) (st2 := [.int 0]) rfl rfl rfl rfl rfl rfl (m_isSheet) (fun g1 => ?_) (fun g1 => ?_)
  · refine R_go 4 (pc' := 11) (L' := [some (.ref 64), some (.int (nI e)), some (.int (nI t)), some (.int 1), none, none, none, none, none]) (st' := [.int 23, .int 0, .int (nI t)]) (h' := mk M T) (fun _ => rfl) ?_
    refine R_call2 (i := .invokestatic 53) (kd := 1) (y := M_X8_in) (as := [.int (nI t), .int 0, .int 23]) (r := []) (L0 := [some (.int (nI t)), some (.int 0), some (.int 23)]) (v1 := some (.int 1)) (v2 := some (.int 0)) (h1' := mk M T) (h2' := mk M T) (pc' := 14) (st1 := [.int 1]) (st2 := [.int 0]) rfl rfl rfl rfl rfl rfl (m_in) (fun g2 => ?_) (fun g2 => ?_)
    · refine R_go 4 (pc' := 20) (L' := [some (.ref 64), some (.int (nI e)), some (.int (nI t)), some (.int 1), none, none, none, none, none]) (st' := [.int 1, .int 0, .int 1]) (h' := mk M T) (fun _ => rfl) ?_
      refine R_call2 (i := .invokestatic 53) (kd := 1) (y := M_X8_in) (as := [.int 1, .int 0, .int 1]) (r := []) (L0 := [some (.int 1), some (.int 0), some (.int 1)]) (v1 := some (.int 1)) (v2 := some (.int 0)) (h1' := mk M T) (h2' := mk M T) (pc' := 23) (st1 := [.int 1]) (st2 := [.int 0]) rfl rfl rfl rfl rfl rfl (m_in) (fun g3 => ?_) (fun g3 => ?_)
      · refine R_go 4 (pc' := 38) (L' := [some (.ref 64), some (.int (nI e)), some (.int (nI t)), some (.int 1), none, none, none, none, none]) (st' := [.int (nI e), .ref 68]) (h' := mk M T) (fun _ => rfl) ?_
        refine R_iald (c := 65) (n := 4) (j := e) rfl rfl (by omega) (by decide) ?_
        refine R_top (y := nI b) (hb) ?_
        refine R_ifn 1 (c := (nI b) = 0) (t := 49) (f := 42) (L' := [some (.ref 64), some (.int (nI e)), some (.int (nI t)), some (.int 1), none, none, none, none, none]) (st' := []) (h' := mk M T) (fun _ => rfl) (fun g4 => ?_) (fun g4 => ?_)
        · replace g4 : ¬ b = 0 := fun q => g4 ((nI_eq (a := b) (b := 0) (by omega) (by omega)).mpr q)
          refine R_go 4 (pc' := 55) (L' := [some (.ref 64), some (.int (nI e)), some (.int (nI t)), some (.int 1), none, none, none, none, none]) (st' := [.int (M 62 0)]) (h' := mk M T) (fun _ => rfl) ?_
          refine R_top (y := nI cold) (hc) ?_
          refine R_go 7 (pc' := 67) (L' := [some (.ref 64), some (.int (nI e)), some (.int (nI t)), some (.int 1), some (.int (nI cold)), some (.int 0), some (.int (-1)), some (.int 40), none]) (st' := []) (h' := mk M T) (fun _ => rfl) ?_
          refine lp_m_fits he hz z24 hb b32 b0 hP h8 hpn hq hc hl c40 l1 h0 ht (u := 1) (by omega) 41 M none coX_refl (Nat.le_refl _) (fun M' w hM => ?_)
          rw [hx, lsv_n hy]
          refine R_go 11 (pc' := 162) (L' := [some (.ref 64), some (.int (nI e)), some (.int (nI t)), some (.int 1), some (.int (nI cold)), some (.int (nI x)), some (.int (-1)), some (.int (-1)), w]) (st' := [.int (-1000000002), .ref 64]) (h' := mk (up M' 62 0 (nI cold)) T) (fun _ => rfl) ?_
          refine R_callD (i := .invokevirtual 81) (kd := 0) (y := M_X8_error) (as := [.ref 64, .int (-1000000002)]) (r := []) (L0 := [some (.ref 64), some (.int (-1000000002))]) (v := some (.int (-1000000002))) (h' := mk (up (up M' 62 0 (nI cold)) 64 2 ((up M' 62 0 (nI cold)) 64 2 + 1)) T) (pc' := 165) (st' := [.int (-1000000002)]) rfl rfl rfl rfl rfl rfl (m_error_2) ?_
          refine R_ret 2 (pcr := 170) (v := some (.int (-1000000002))) (h' := mk (up (up M' 62 0 (nI cold)) 64 2 ((up M' 62 0 (nI cold)) 64 2 + 1)) T) (fun _ => rfl) ?_
          exact ⟨rfl, by rw [coX_back hM hc]⟩
        · replace g4 : b = 0 := (nI_eq (a := b) (b := 0) (by omega) (by omega)).mp g4
          omega
      · exact absurd (by decide) g3
    · exact absurd (nI_in2 (a := 0) (b := 23) (by omega) (by omega) (by omega)) g2
  · exact absurd (nI_in2 (a := 0) (b := 3) (by omega) (by omega) (by omega)) g1
set_option maxHeartbeats 4000000 in
theorem op_fits {ro : xRO} {M : xM} {T : Nat} (h : Rel M) {i v w : Int32} : OpOK ro M_X7_fits M_X8_fits [some (.ref 3), some (.int i), some (.int v), some (.int w), none, none, none, none] [some (.ref 64), some (.int i), some (.int v), some (.int w), none, none, none, none, none] M T := by
  obtain ⟨P, H, h8, h6, pm, hm, px, hx, a, b1, b2, b3, b4, c2, c3, c4, c5⟩ := rel_all h
  rcases nI_cases i 4 (by omega) with ⟨e, he, rfl⟩ | hi
  · obtain ⟨b, z, bx, bm, b5, zx, zm, z24, bz, nr⟩ := rel_sh h he
    have b32 : b ≤ 32 := by omega
    rcases of_in v (b := 23) (by omega) with ⟨t, ht, rfl⟩ | hv
    · rcases of_in w (b := 1) (by omega) with ⟨u, hu, rfl⟩ | hv
      · by_cases b0 : b = 0
        · subst b0
          exact OpOK.of (fun d => x_fits_0 he bx ht hu) (fun d => m_fits_0 (M := up M 60 2 (M 60 2 + 1)) he bm ht hu) rfl (h.err 2 (by omega))
        · have hq : ∀ i v, i < 24 → v < 100 → (M (53 + 2 * e) i = nI v ↔ M 67 (24 * e + i) = nI v) := fun i v hi hv => numR_v (nr i hi) (by omega) hv
          obtain ⟨cold, cc1, cc2⟩ := c2.2.2.1
          obtain ⟨lamp, ll1, ll2⟩ := c2.2.2.2.2.1
          rcases (show u = 0 ∨ u = 1 by omega) with rfl | rfl
          · exact OpOK.of (fun d => x_fits_g0 he zx z24 bx b32 b0 px h8 (a.2.2.2.2.2.1.trans ll2) ll1 (rel_pn h).1 hq ht rfl (cnt_le _ _ _)) (fun d => m_fits_g0 (M := M) (cs := fun i => M 67 (24 * e + i)) he zm z24 bm b32 b0 pm h8 (rel_pn h).2 (fun i hi => rfl) cc2 ll2 cc1 ll1 h.2.2.2.2.2 ht rfl (cnt_le _ _ _)) rfl h
          · have q3 := cnt_lst (fun c => decide (lst (rgF (kdN M) (mqN M) (fcN M) (clN M) (fun i => M 67 (24 * e + i)) P t c lamp) 0 z = z)) 41 0
            have q4 := (lst_le (fun c => decide (lst (rgF (kdN M) (mqN M) (fcN M) (clN M) (fun i => M 67 (24 * e + i)) P t c lamp) 0 z = z)) 41 0).2
            rcases Nat.lt_or_ge (lst (fun c => decide (lst (rgF (kdN M) (mqN M) (fcN M) (clN M) (fun i => M 67 (24 * e + i)) P t c lamp) 0 z = z)) 0 41) 41 with hy | hy
            · exact OpOK.of (fun d => x_fits_g1 he zx z24 bx b32 b0 px h8 (a.2.2.2.2.2.1.trans ll2) ll1 (rel_pn h).1 hq ht rfl (cnt_le _ _ _) hy (by omega)) (fun d => m_fits_g1 (M := M) (cs := fun i => M 67 (24 * e + i)) he zm z24 bm b32 b0 pm h8 (rel_pn h).2 (fun i hi => rfl) cc2 ll2 cc1 ll1 h.2.2.2.2.2 ht rfl (cnt_le _ _ _) hy (by omega)) rfl h
            · exact OpOK.of (fun d => x_fits_g2 he zx z24 bx b32 b0 px h8 (a.2.2.2.2.2.1.trans ll2) ll1 (rel_pn h).1 hq ht rfl (cnt_le _ _ _) (by omega) (by omega)) (fun d => m_fits_g2 (M := up M 60 2 (M 60 2 + 1)) (cs := fun i => M 67 (24 * e + i)) he zm z24 bm b32 b0 pm h8 (rel_pn h).2 (fun i hi => rfl) cc2 ll2 cc1 ll1 h.2.2.2.2.2 ht rfl (cnt_le _ _ _) (by omega) (by omega)) rfl (h.err 2 (by omega))
      · exact OpOK.of (fun d => x_fits_b2 he ht hv) (fun d => m_fits_b2 (M := up M 60 1 (M 60 1 + 1)) he ht hv) rfl (h.err 1 (by omega))
    · exact OpOK.of (fun d => x_fits_b1 he hv) (fun d => m_fits_b1 (M := up M 60 1 (M 60 1 + 1)) he hv) rfl (h.err 1 (by omega))
  · exact OpOK.of (fun d => x_fits_o hi) (fun d => m_fits_o (M := up M 60 1 (M 60 1 + 1)) hi) rfl (h.err 1 (by omega))
