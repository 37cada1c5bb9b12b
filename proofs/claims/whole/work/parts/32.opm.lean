/-! OPERATION body -/
set_option maxRecDepth 100000 in
set_option maxHeartbeats 4000000 in
theorem c_bodyAt {ro : xRO} {d : Nat} {M : xM} {T : Nat} {n : Nat} (hn : n < 30) : Rn ro d M_X5_bodyAt 0 [some (.ref 52), some (.int (nI n))] [] (mk M T) (fun r h => r = some (.int (M 50 n)) ∧ h = mk M T) := by
  refine R_if 2 (c := (nI n) < 0) (t := 22) (f := 4) (L' := [some (.ref 52), some (.int (nI n))]) (st' := []) (h' := mk M T) (fun _ => rfl) (fun g1 => ?_) (fun g1 => ?_)
  · replace g1 : n < 0 := (nI_ltI (a := n) (b := 0) (by omega) (by omega)).mp g1
    omega
  · replace g1 : ¬ n < 0 := fun q => g1 ((nI_ltI (a := n) (b := 0) (by omega) (by omega)).mpr q)
    refine R_if 5 (c := 30 ≤ (nI n)) (t := 22) (f := 13) (L' := [some (.ref 52), some (.int (nI n))]) (st' := []) (h' := mk M T) (fun _ => rfl) (fun g2 => ?_) (fun g2 => ?_)
    · replace g2 : 30 ≤ n := (nI_leI (a := 30) (b := n) (by omega) (by omega)).mp g2
      omega
    · replace g2 : ¬ 30 ≤ n := fun q => g2 ((nI_leI (a := 30) (b := n) (by omega) (by omega)).mpr q)
      refine R_go 3 (pc' := 18) (L' := [some (.ref 52), some (.int (nI n))]) (st' := [.int (nI n), .ref 53]) (h' := mk M T) (fun _ => rfl) ?_
      refine R_iald (c := 50) (n := 30) (j := n) rfl rfl (by omega) (by decide) ?_
      refine R_ret 2 (pcr := 23) (v := some (.int (M 50 n))) (h' := mk M T) (fun _ => rfl) ?_
      exact ⟨rfl, rfl⟩
set_option maxRecDepth 100000 in
set_option maxHeartbeats 4000000 in
theorem x_body_i {ro : xRO} {d : Nat} {M : xM} {T : Nat} {t : Nat} (ht : M 49 1 = nI t) (t30 : t ≤ 30) {n : Nat} (hn : n < t) : Rn ro (d + 90) M_X7_body 0 [some (.ref 3), some (.int (nI n))] [] (mk M T) (fun r h => r = some (.int (M 50 n)) ∧ h = mk M T) := by
  refine R_if 2 (c := (nI n) < 0) (t := 26) (f := 4) (L' := [some (.ref 3), some (.int (nI n))]) (st' := []) (h' := mk M T) (fun _ => rfl) (fun g1 => ?_) (fun g1 => ?_)
  · replace g1 : n < 0 := (nI_ltI (a := n) (b := 0) (by omega) (by omega)).mp g1
    omega
  · replace g1 : ¬ n < 0 := fun q => g1 ((nI_ltI (a := n) (b := 0) (by omega) (by omega)).mpr q)
    refine R_go 4 (pc' := 12) (L' := [some (.ref 3), some (.int (nI n))]) (st' := [.int (M 49 1), .int (nI n)]) (h' := mk M T) (fun _ => rfl) ?_
    refine R_top (y := nI t) (ht) ?_
    refine R_if 1 (c := (nI t) ≤ (nI n)) (t := 26) (f := 15) (L' := [some (.ref 3), some (.int (nI n))]) (st' := []) (h' := mk M T) (fun _ => rfl) (fun g2 => ?_) (fun g2 => ?_)
    · replace g2 : t ≤ n := (nI_leI (a := t) (b := n) (by omega) (by omega)).mp g2
      omega
    · replace g2 : ¬ t ≤ n := fun q => g2 ((nI_leI (a := t) (b := n) (by omega) (by omega)).mpr q)
      refine R_go 3 (pc' := 20) (L' := [some (.ref 3), some (.int (nI n))]) (st' := [.int (nI n), .ref 52]) (h' := mk M T) (fun _ => rfl) ?_
      refine R_callD (i := .invokevirtual 256) (kd := 0) (y := M_X5_bodyAt) (as := [.ref 52, .int (nI n)]) (r := []) (L0 := [some (.ref 52), some (.int (nI n))]) (v := some (.int (M 50 n))) (h' := mk M T) (pc' := 23) (st' := [.int (M 50 n)]) rfl rfl rfl rfl rfl rfl (c_bodyAt (n := n) (by omega)) ?_
      refine R_ret 2 (pcr := 31) (v := some (.int (M 50 n))) (h' := mk M T) (fun _ => rfl) ?_
      exact ⟨rfl, rfl⟩
set_option maxRecDepth 100000 in
set_option maxHeartbeats 4000000 in
theorem x_body_o {ro : xRO} {d : Nat} {M : xM} {T : Nat} {t : Nat} (ht : M 49 1 = nI t) (t30 : t ≤ 30) {i : Int32} (hi : ¬ (0 ≤ i ∧ i < nI t)) : Rn ro (d + 90) M_X7_body 0 [some (.ref 3), some (.int i)] [] (mk M T) (fun r h => r = some (.int (-1000000002)) ∧ h = mk (up M 60 2 (M 60 2 + 1)) T) := by
  refine R_if 2 (c := i < 0) (t := 26) (f := 4) (L' := [some (.ref 3), some (.int i)]) (st' := []) (h' := mk M T) (fun _ => rfl) (fun g1 => ?_) (fun g1 => ?_)
  · refine R_go 2 (pc' := 28) (L' := [some (.ref 3), some (.int i)]) (st' := [.int 2, .ref 3]) (h' := mk M T) (fun _ => rfl) ?_
    refine R_callD (i := .invokevirtual 75) (kd := 0) (y := M_X7_error) (as := [.ref 3, .int 2]) (r := []) (L0 := [some (.ref 3), some (.int 2)]) (v := some (.int (-1000000002))) (h' := mk (up M 60 2 (M 60 2 + 1)) T) (pc' := 31) (st' := [.int (-1000000002)]) rfl rfl rfl rfl rfl rfl (c_error_2) ?_
    refine R_ret 1 (pcr := 31) (v := some (.int (-1000000002))) (h' := mk (up M 60 2 (M 60 2 + 1)) T) (fun _ => rfl) ?_
    exact ⟨rfl, rfl⟩
  · refine R_go 4 (pc' := 12) (L' := [some (.ref 3), some (.int i)]) (st' := [.int (M 49 1), .int i]) (h' := mk M T) (fun _ => rfl) ?_
    refine R_top (y := nI t) (ht) ?_
    refine R_if 1 (c := (nI t) ≤ i) (t := 26) (f := 15) (L' := [some (.ref 3), some (.int i)]) (st' := []) (h' := mk M T) (fun _ => rfl) (fun g2 => ?_) (fun g2 => ?_)
    · refine R_go 2 (pc' := 28) (L' := [some (.ref 3), some (.int i)]) (st' := [.int 2, .ref 3]) (h' := mk M T) (fun _ => rfl) ?_
      refine R_callD (i := .invokevirtual 75) (kd := 0) (y := M_X7_error) (as := [.ref 3, .int 2]) (r := []) (L0 := [some (.ref 3), some (.int 2)]) (v := some (.int (-1000000002))) (h' := mk (up M 60 2 (M 60 2 + 1)) T) (pc' := 31) (st' := [.int (-1000000002)]) rfl rfl rfl rfl rfl rfl (c_error_2) ?_
      refine R_ret 1 (pcr := 31) (v := some (.int (-1000000002))) (h' := mk (up M 60 2 (M 60 2 + 1)) T) (fun _ => rfl) ?_
      exact ⟨rfl, rfl⟩
    · exact absurd ⟨k2_le g1, k2_lt g2⟩ hi
set_option maxRecDepth 100000 in
set_option maxHeartbeats 4000000 in
theorem m_body_i {ro : xRO} {d : Nat} {M : xM} {T : Nat} {t : Nat} (ht : M 61 22 = nI t) (t30 : t ≤ 30) {n : Nat} (hn : n < t) : Rn ro (d + 90) M_X8_body 0 [some (.ref 64), some (.int (nI n))] [] (mk M T) (fun r h => r = some (.int (M 75 n)) ∧ h = mk M T) := by
  refine R_go 4 (pc' := 6) (L' := [some (.ref 64), some (.int (nI n))]) (st' := [.int (M 61 22), .int 0, .int (nI n)]) (h' := mk M T) (fun _ => rfl) ?_
  refine R_top (y := nI t) (ht) ?_
  refine R_go 2 (pc' := 8) (L' := [some (.ref 64), some (.int (nI n))]) (st' := [.int ((nI t) - 1), .int 0, .int (nI n)]) (h' := mk M T) (fun _ => rfl) ?_
  refine R_call2 (i := .invokestatic 53) (kd := 1) (y := M_X8_in) (as := [.int (nI n), .int 0, .int ((nI t) - 1)]) (r := []) (L0 := [some (.int (nI n)), some (.int 0), some (.int ((nI t) - 1))]) (v1 := some (.int 1)) (v2 := some (.int 0)) (h1' := mk M T) (h2' := mk M T) (pc' := 11) (st1 := [.int 1]) (st2 := [.int 0]) rfl rfl rfl rfl rfl rfl (m_in) (fun g1 => ?_) (fun g1 => ?_)
  · refine R_go 4 (pc' := 19) (L' := [some (.ref 64), some (.int (nI n))]) (st' := [.int (nI n), .ref 78]) (h' := mk M T) (fun _ => rfl) ?_
    refine R_iald (c := 75) (n := 30) (j := n) rfl rfl (by omega) (by decide) ?_
    refine R_ret 2 (pcr := 29) (v := some (.int (M 75 n))) (h' := mk M T) (fun _ => rfl) ?_
    exact ⟨rfl, rfl⟩
  · exact absurd ((in_lt (by omega)).mpr ⟨nI_pos' (by omega), nI_lt hn (by omega)⟩) g1
set_option maxRecDepth 100000 in
set_option maxHeartbeats 4000000 in
theorem m_body_o {ro : xRO} {d : Nat} {M : xM} {T : Nat} {t : Nat} (ht : M 61 22 = nI t) (t30 : t ≤ 30) {i : Int32} (hi : ¬ (0 ≤ i ∧ i < nI t)) : Rn ro (d + 90) M_X8_body 0 [some (.ref 64), some (.int i)] [] (mk M T) (fun r h => r = some (.int (-1000000002)) ∧ h = mk (up M 64 2 (M 64 2 + 1)) T) := by
  refine R_go 4 (pc' := 6) (L' := [some (.ref 64), some (.int i)]) (st' := [.int (M 61 22), .int 0, .int i]) (h' := mk M T) (fun _ => rfl) ?_
  refine R_top (y := nI t) (ht) ?_
  refine R_go 2 (pc' := 8) (L' := [some (.ref 64), some (.int i)]) (st' := [.int ((nI t) - 1), .int 0, .int i]) (h' := mk M T) (fun _ => rfl) ?_
  refine R_call2 (i := .invokestatic 53) (kd := 1) (y := M_X8_in) (as := [.int i, .int 0, .int ((nI t) - 1)]) (r := []) (L0 := [some (.int i), some (.int 0), some (.int ((nI t) - 1))]) (v1 := some (.int 1)) (v2 := some (.int 0)) (h1' := mk M T) (h2' := mk M T) (pc' := 11) (st1 := [.int 1]) (st2 := [.int 0]) rfl rfl rfl rfl rfl rfl (m_in) (fun g1 => ?_) (fun g1 => ?_)
  · exact absurd g1 (fun q => hi ((in_lt (by omega)).mp q))
  · refine R_go 3 (pc' := 26) (L' := [some (.ref 64), some (.int i)]) (st' := [.int (-1000000002), .ref 64]) (h' := mk M T) (fun _ => rfl) ?_
    refine R_callD (i := .invokevirtual 81) (kd := 0) (y := M_X8_error) (as := [.ref 64, .int (-1000000002)]) (r := []) (L0 := [some (.ref 64), some (.int (-1000000002))]) (v := some (.int (-1000000002))) (h' := mk (up M 64 2 (M 64 2 + 1)) T) (pc' := 29) (st' := [.int (-1000000002)]) rfl rfl rfl rfl rfl rfl (m_error_2) ?_
    refine R_ret 1 (pcr := 29) (v := some (.int (-1000000002))) (h' := mk (up M 64 2 (M 64 2 + 1)) T) (fun _ => rfl) ?_
    exact ⟨rfl, rfl⟩
set_option maxHeartbeats 4000000 in
theorem op_body {ro : xRO} {M : xM} {T : Nat} (h : Rel M) {i : Int32} : OpOK ro M_X7_body M_X8_body [some (.ref 3), some (.int i)] [some (.ref 64), some (.int i)] M T := by
  obtain ⟨P, H, h8, h6, pm, hm, px, hx, a, b1, b2, b3, b4, c2, c3, c4, c5⟩ := rel_all h
  obtain ⟨t1, ⟨t, t30, t2⟩, t3⟩ := h.2.2.2.2.1
  rcases nI_cases i t (by omega) with ⟨n, hn, rfl⟩ | hi
  · exact OpOK.of (fun d => x_body_i (t1.trans t2) t30 hn) (fun d => m_body_i t2 t30 hn) (t3 n (by rw [t2, nI_clamp (by omega)]; exact hn)).symm h
  · exact OpOK.of (fun d => x_body_o (t1.trans t2) t30 hi) (fun d => m_body_o (M := up M 60 2 (M 60 2 + 1)) t2 t30 hi) rfl (h.err 2 (by omega))
