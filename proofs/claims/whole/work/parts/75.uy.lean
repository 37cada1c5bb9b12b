/-! OPERATION best -/
theorem m1_lt {P : Nat} (h : P < 2 ^ 31) : (-1 : Int32) < nI P := Int32.lt_of_lt_of_le (by decide) (nI_pos' h)
theorem m1_in {n : Nat} (h : n ≤ 5) : (-1 : Int32) ≤ nI n ∧ nI n ≤ 5 := ⟨Int32.le_of_lt (m1_lt (by omega)), nI_le (b := 5) h (by omega)⟩
set_option maxRecDepth 100000 in
set_option maxHeartbeats 4000000 in
theorem x_best_b {ro : xRO} {d : Nat} {M : xM} {T : Nat} {v : Int32} (hv : ¬ (-1 ≤ v ∧ v ≤ 5)) : Rn ro (d + 90) M_X7_best 0 [some (.ref 3), some (.int v)] [] (mk M T) (fun r h => r = some (.int (-1000000001)) ∧ h = mk (up M 60 1 (M 60 1 + 1)) T) := by
  refine R_go 3 (pc' := 3) (L' := [some (.ref 3), some (.int v)]) (st' := [.int 5, .int (-1), .int v]) (h' := mk M T) (fun _ => rfl) ?_
  refine R_call2 (i := .invokestatic 78) (kd := 1) (y := M_X7_within) (as := [.int v, .int (-1), .int 5]) (r := []) (L0 := [some (.int v), some (.int (-1)), some (.int 5)]) (v1 := some (.int 1)) (v2 := some (.int 0)) (h1' := mk M T) (h2' := mk M T) (pc' := 6) (st1 := [.int 1]) (st2 := [.int 0]) rfl rfl rfl rfl rfl rfl (c_within) (fun g1 => ?_) (fun g1 => ?_)
  · exact absurd g1 (hv)
  · refine R_go 3 (pc' := 11) (L' := [some (.ref 3), some (.int v)]) (st' := [.int 1, .ref 3]) (h' := mk M T) (fun _ => rfl) ?_
    refine R_callD (i := .invokevirtual 75) (kd := 0) (y := M_X7_error) (as := [.ref 3, .int 1]) (r := []) (L0 := [some (.ref 3), some (.int 1)]) (v := some (.int (-1000000001))) (h' := mk (up M 60 1 (M 60 1 + 1)) T) (pc' := 14) (st' := [.int (-1000000001)]) rfl rfl rfl rfl rfl rfl (c_error_1) ?_
    refine R_ret 1 (pcr := 14) (v := some (.int (-1000000001))) (h' := mk (up M 60 1 (M 60 1 + 1)) T) (fun _ => rfl) ?_
    exact ⟨rfl, rfl⟩
set_option maxRecDepth 100000 in
set_option maxHeartbeats 4000000 in
theorem m_best_b {ro : xRO} {d : Nat} {M : xM} {T : Nat} {v : Int32} (hv : ¬ (-1 ≤ v ∧ v ≤ 5)) : Rn ro (d + 90) M_X8_best 0 [some (.ref 64), some (.int v)] [] (mk M T) (fun r h => r = some (.int (-1000000001)) ∧ h = mk (up M 64 1 (M 64 1 + 1)) T) := by
  refine R_go 3 (pc' := 3) (L' := [some (.ref 64), some (.int v)]) (st' := [.int 5, .int (-1), .int v]) (h' := mk M T) (fun _ => rfl) ?_
  refine R_call2 (i := .invokestatic 53) (kd := 1) (y := M_X8_in) (as := [.int v, .int (-1), .int 5]) (r := []) (L0 := [some (.int v), some (.int (-1)), some (.int 5)]) (v1 := some (.int 1)) (v2 := some (.int 0)) (h1' := mk M T) (h2' := mk M T) (pc' := 6) (st1 := [.int 1]) (st2 := [.int 0]) rfl rfl rfl rfl rfl rfl (m_in) (fun g1 => ?_) (fun g1 => ?_)
  · exact absurd g1 (hv)
  · refine R_go 3 (pc' := 12) (L' := [some (.ref 64), some (.int v)]) (st' := [.int (-1000000001), .ref 64]) (h' := mk M T) (fun _ => rfl) ?_
    refine R_callD (i := .invokevirtual 81) (kd := 0) (y := M_X8_error) (as := [.ref 64, .int (-1000000001)]) (r := []) (L0 := [some (.ref 64), some (.int (-1000000001))]) (v := some (.int (-1000000001))) (h' := mk (up M 64 1 (M 64 1 + 1)) T) (pc' := 15) (st' := [.int (-1000000001)]) rfl rfl rfl rfl rfl rfl (m_error_1) ?_
    refine R_ret 1 (pcr := 15) (v := some (.int (-1000000001))) (h' := mk (up M 64 1 (M 64 1 + 1)) T) (fun _ => rfl) ?_
    exact ⟨rfl, rfl⟩
set_option maxRecDepth 100000 in
set_option maxHeartbeats 4000000 in
theorem x_best_s {ro : xRO} {d : Nat} {M : xM} {T : Nat} {P : Nat} (hP : M 1 6 = nI P) (h8 : P ≤ 8) {v : Int32} (hv : -1 ≤ v ∧ v ≤ 5) (hs : 6 < P) : Rn ro (d + 90) M_X7_best 0 [some (.ref 3), some (.int v)] [] (mk M T) (fun r h => r = some (.int (-1000000003)) ∧ h = mk (up M 60 3 (M 60 3 + 1)) T) := by
  refine R_go 3 (pc' := 3) (L' := [some (.ref 3), some (.int v)]) (st' := [.int 5, .int (-1), .int v]) (h' := mk M T) (fun _ => rfl) ?_
  refine R_call2 (i := .invokestatic 78) (kd := 1) (y := M_X7_within) (as := [.int v, .int (-1), .int 5]) (r := []) (L0 := [some (.int v), some (.int (-1)), some (.int 5)]) (v1 := some (.int 1)) (v2 := some (.int 0)) (h1' := mk M T) (h2' := mk M T) (pc' := 6) (st1 := [.int 1]) (st2 := [.int 0]) rfl rfl rfl rfl rfl rfl (c_within) (fun g1 => ?_) (fun g1 => ?_)
  · refine R_go 4 (pc' := 22) (L' := [some (.ref 3), some (.int v)]) (st' := [.int (M 1 6)]) (h' := mk M T) (fun _ => rfl) ?_
    refine R_top (y := nI P) (hP) ?_
    refine R_if 2 (c := (nI P) ≤ 6) (t := 33) (f := 27) (L' := [some (.ref 3), some (.int v)]) (st' := []) (h' := mk M T) (fun _ => rfl) (fun g2 => ?_) (fun g2 => ?_)
    · replace g2 : P ≤ 6 := (nI_leI (a := P) (b := 6) (by omega) (by omega)).mp g2
      omega
    · replace g2 : ¬ P ≤ 6 := fun q => g2 ((nI_leI (a := P) (b := 6) (by omega) (by omega)).mpr q)
      refine R_go 2 (pc' := 29) (L' := [some (.ref 3), some (.int v)]) (st' := [.int 3, .ref 3]) (h' := mk M T) (fun _ => rfl) ?_
      refine R_callD (i := .invokevirtual 75) (kd := 0) (y := M_X7_error) (as := [.ref 3, .int 3]) (r := []) (L0 := [some (.ref 3), some (.int 3)]) (v := some (.int (-1000000003))) (h' := mk (up M 60 3 (M 60 3 + 1)) T) (pc' := 32) (st' := [.int (-1000000003)]) rfl rfl rfl rfl rfl rfl (c_error_3) ?_
      refine R_ret 1 (pcr := 32) (v := some (.int (-1000000003))) (h' := mk (up M 60 3 (M 60 3 + 1)) T) (fun _ => rfl) ?_
      exact ⟨rfl, rfl⟩
  · exact absurd (hv) g1
set_option maxRecDepth 100000 in
set_option maxHeartbeats 4000000 in
theorem m_best_s {ro : xRO} {d : Nat} {M : xM} {T : Nat} {P : Nat} (hP : M 62 6 = nI P) (h8 : P ≤ 8) {v : Int32} (hv : -1 ≤ v ∧ v ≤ 5) (hs : 6 < P) : Rn ro (d + 90) M_X8_best 0 [some (.ref 64), some (.int v)] [] (mk M T) (fun r h => r = some (.int (-1000000003)) ∧ h = mk (up M 64 3 (M 64 3 + 1)) T) := by
  refine R_go 3 (pc' := 3) (L' := [some (.ref 64), some (.int v)]) (st' := [.int 5, .int (-1), .int v]) (h' := mk M T) (fun _ => rfl) ?_
  refine R_call2 (i := .invokestatic 53) (kd := 1) (y := M_X8_in) (as := [.int v, .int (-1), .int 5]) (r := []) (L0 := [some (.int v), some (.int (-1)), some (.int 5)]) (v1 := some (.int 1)) (v2 := some (.int 0)) (h1' := mk M T) (h2' := mk M T) (pc' := 6) (st1 := [.int 1]) (st2 := [.int 0]) rfl rfl rfl rfl rfl rfl (m_in) (fun g1 => ?_) (fun g1 => ?_)
  · refine R_go 5 (pc' := 23) (L' := [some (.ref 64), some (.int v)]) (st' := [.int (M 62 6)]) (h' := mk M T) (fun _ => rfl) ?_
    refine R_top (y := nI P) (hP) ?_
    refine R_if 2 (c := (nI P) ≤ 6) (t := 35) (f := 28) (L' := [some (.ref 64), some (.int v)]) (st' := []) (h' := mk M T) (fun _ => rfl) (fun g2 => ?_) (fun g2 => ?_)
    · replace g2 : P ≤ 6 := (nI_leI (a := P) (b := 6) (by omega) (by omega)).mp g2
      omega
    · replace g2 : ¬ P ≤ 6 := fun q => g2 ((nI_leI (a := P) (b := 6) (by omega) (by omega)).mpr q)
      refine R_go 2 (pc' := 31) (L' := [some (.ref 64), some (.int v)]) (st' := [.int (-1000000003), .ref 64]) (h' := mk M T) (fun _ => rfl) ?_
      refine R_callD (i := .invokevirtual 81) (kd := 0) (y := M_X8_error) (as := [.ref 64, .int (-1000000003)]) (r := []) (L0 := [some (.ref 64), some (.int (-1000000003))]) (v := some (.int (-1000000003))) (h' := mk (up M 64 3 (M 64 3 + 1)) T) (pc' := 34) (st' := [.int (-1000000003)]) rfl rfl rfl rfl rfl rfl (m_error_3) ?_
      refine R_ret 1 (pcr := 34) (v := some (.int (-1000000003))) (h' := mk (up M 64 3 (M 64 3 + 1)) T) (fun _ => rfl) ?_
      exact ⟨rfl, rfl⟩
  · exact absurd (hv) g1
set_option maxRecDepth 100000 in
set_option maxHeartbeats 4000000 in
theorem x_best_n {ro : xRO} {d : Nat} {M : xM} {T : Nat} {P : Nat} (hP : M 1 6 = nI P) (h8 : P ≤ 8) {n : Nat} (n5 : n ≤ 5) (hs : P ≤ 6) (hn : P ≤ n) : Rn ro (d + 90) M_X7_best 0 [some (.ref 3), some (.int (nI n))] [] (mk M T) (fun r h => r = some (.int (-1000000002)) ∧ h = mk (up M 60 2 (M 60 2 + 1)) T) := by
  refine R_go 3 (pc' := 3) (L' := [some (.ref 3), some (.int (nI n))]) (st' := [.int 5, .int (-1), .int (nI n)]) (h' := mk M T) (fun _ => rfl) ?_
  refine R_call2 (i := .invokestatic 78) (kd := 1) (y := M_X7_within) (as := [.int (nI n), .int (-1), .int 5]) (r := []) (L0 := [some (.int (nI n)), some (.int (-1)), some (.int 5)]) (v1 := some (.int 1)) (v2 := some (.int 0)) (h1' := mk M T) (h2' := mk M T) (pc' := 6) (st1 := [.int 1]) (st2 := [.int 0]) rfl rfl rfl rfl rfl rfl (c_within) (fun g1 => ?_) (fun g1 => ?_)
  · refine R_go 4 (pc' := 22) (L' := [some (.ref 3), some (.int (nI n))]) (st' := [.int (M 1 6)]) (h' := mk M T) (fun _ => rfl) ?_
    refine R_top (y := nI P) (hP) ?_
    refine R_if 2 (c := (nI P) ≤ 6) (t := 33) (f := 27) (L' := [some (.ref 3), some (.int (nI n))]) (st' := []) (h' := mk M T) (fun _ => rfl) (fun g2 => ?_) (fun g2 => ?_)
    · replace g2 : P ≤ 6 := (nI_leI (a := P) (b := 6) (by omega) (by omega)).mp g2
      refine R_go 4 (pc' := 41) (L' := [some (.ref 3), some (.int (nI n))]) (st' := [.int (M 1 6), .int (nI n)]) (h' := mk M T) (fun _ => rfl) ?_
      refine R_top (y := nI P) (hP) ?_
      refine R_if 1 (c := (nI n) < (nI P)) (t := 50) (f := 44) (L' := [some (.ref 3), some (.int (nI n))]) (st' := []) (h' := mk M T) (fun _ => rfl) (fun g3 => ?_) (fun g3 => ?_)
      · replace g3 : n < P := (nI_ltI (a := n) (b := P) (by omega) (by omega)).mp g3
        omega
      · replace g3 : ¬ n < P := fun q => g3 ((nI_ltI (a := n) (b := P) (by omega) (by omega)).mpr q)
        refine R_go 2 (pc' := 46) (L' := [some (.ref 3), some (.int (nI n))]) (st' := [.int 2, .ref 3]) (h' := mk M T) (fun _ => rfl) ?_
        refine R_callD (i := .invokevirtual 75) (kd := 0) (y := M_X7_error) (as := [.ref 3, .int 2]) (r := []) (L0 := [some (.ref 3), some (.int 2)]) (v := some (.int (-1000000002))) (h' := mk (up M 60 2 (M 60 2 + 1)) T) (pc' := 49) (st' := [.int (-1000000002)]) rfl rfl rfl rfl rfl rfl (c_error_2) ?_
        refine R_ret 1 (pcr := 49) (v := some (.int (-1000000002))) (h' := mk (up M 60 2 (M 60 2 + 1)) T) (fun _ => rfl) ?_
        exact ⟨rfl, rfl⟩
    · replace g2 : ¬ P ≤ 6 := fun q => g2 ((nI_leI (a := P) (b := 6) (by omega) (by omega)).mpr q)
      omega
  · exact absurd (m1_in n5) g1
set_option maxRecDepth 100000 in
set_option maxHeartbeats 4000000 in
theorem m_best_n {ro : xRO} {d : Nat} {M : xM} {T : Nat} {P : Nat} (hP : M 62 6 = nI P) (h8 : P ≤ 8) {n : Nat} (n5 : n ≤ 5) (hs : P ≤ 6) (hn : P ≤ n) : Rn ro (d + 90) M_X8_best 0 [some (.ref 64), some (.int (nI n))] [] (mk M T) (fun r h => r = some (.int (-1000000002)) ∧ h = mk (up M 64 2 (M 64 2 + 1)) T) := by
  refine R_go 3 (pc' := 3) (L' := [some (.ref 64), some (.int (nI n))]) (st' := [.int 5, .int (-1), .int (nI n)]) (h' := mk M T) (fun _ => rfl) ?_
  refine R_call2 (i := .invokestatic 53) (kd := 1) (y := M_X8_in) (as := [.int (nI n), .int (-1), .int 5]) (r := []) (L0 := [some (.int (nI n)), some (.int (-1)), some (.int 5)]) (v1 := some (.int 1)) (v2 := some (.int 0)) (h1' := mk M T) (h2' := mk M T) (pc' := 6) (st1 := [.int 1]) (st2 := [.int 0]) rfl rfl rfl rfl rfl rfl (m_in) (fun g1 => ?_) (fun g1 => ?_)
  · refine R_go 5 (pc' := 23) (L' := [some (.ref 64), some (.int (nI n))]) (st' := [.int (M 62 6)]) (h' := mk M T) (fun _ => rfl) ?_
    refine R_top (y := nI P) (hP) ?_
    refine R_if 2 (c := (nI P) ≤ 6) (t := 35) (f := 28) (L' := [some (.ref 64), some (.int (nI n))]) (st' := []) (h' := mk M T) (fun _ => rfl) (fun g2 => ?_) (fun g2 => ?_)
    · replace g2 : P ≤ 6 := (nI_leI (a := P) (b := 6) (by omega) (by omega)).mp g2
      refine R_go 5 (pc' := 43) (L' := [some (.ref 64), some (.int (nI n))]) (st' := [.int (M 62 6), .int (nI n)]) (h' := mk M T) (fun _ => rfl) ?_
      refine R_top (y := nI P) (hP) ?_
      refine R_if 1 (c := (nI n) < (nI P)) (t := 53) (f := 46) (L' := [some (.ref 64), some (.int (nI n))]) (st' := []) (h' := mk M T) (fun _ => rfl) (fun g3 => ?_) (fun g3 => ?_)
      · replace g3 : n < P := (nI_ltI (a := n) (b := P) (by omega) (by omega)).mp g3
        omega
      · replace g3 : ¬ n < P := fun q => g3 ((nI_ltI (a := n) (b := P) (by omega) (by omega)).mpr q)
        refine R_go 2 (pc' := 49) (L' := [some (.ref 64), some (.int (nI n))]) (st' := [.int (-1000000002), .ref 64]) (h' := mk M T) (fun _ => rfl) ?_
        refine R_callD (i := .invokevirtual 81) (kd := 0) (y := M_X8_error) (as := [.ref 64, .int (-1000000002)]) (r := []) (L0 := [some (.ref 64), some (.int (-1000000002))]) (v := some (.int (-1000000002))) (h' := mk (up M 64 2 (M 64 2 + 1)) T) (pc' := 52) (st' := [.int (-1000000002)]) rfl rfl rfl rfl rfl rfl (m_error_2) ?_
        refine R_ret 1 (pcr := 52) (v := some (.int (-1000000002))) (h' := mk (up M 64 2 (M 64 2 + 1)) T) (fun _ => rfl) ?_
        exact ⟨rfl, rfl⟩
    · replace g2 : ¬ P ≤ 6 := fun q => g2 ((nI_leI (a := P) (b := 6) (by omega) (by omega)).mpr q)
      omega
  · exact absurd (m1_in n5) g1
set_option maxRecDepth 100000 in
set_option maxHeartbeats 4000000 in
theorem x_best_m {ro : xRO} {d : Nat} {M : xM} {T : Nat} {P : Nat} (hP : M 1 6 = nI P) (h8 : P ≤ 8) (h0 : Rel M) (pm : M 62 6 = nI P) (hs : P ≤ 6) : Rn ro (d + 90) M_X7_best 0 [some (.ref 3), some (.int (-1))] [] (mk M T) (fun rr h => ∃ M', (FS M M') ∧ rr = some (.int (encB (bst M P).1)) ∧ h = mk M' T) := by
  refine R_go 3 (pc' := 3) (L' := [some (.ref 3), some (.int (-1))]) (st' := [.int 5, .int (-1), .int (-1)]) (h' := mk M T) (fun _ => rfl) ?_
  refine R_call2 (i := .invokestatic 78) (kd := 1) (y := M_X7_within) (as := [.int (-1), .int (-1), .int 5]) (r := []) (L0 := [some (.int (-1)), some (.int (-1)), some (.int 5)]) (v1 := some (.int 1)) (v2 := some (.int 0)) (h1' := mk M T) (h2' := mk M T) (pc' := 6) (st1 := [.int 1]) (st2 := [.int 0]) rfl rfl rfl rfl rfl rfl (c_within) (fun x1 => ?_) (fun x1 => ?_)
  · refine R_go 4 (pc' := 22) (L' := [some (.ref 3), some (.int (-1))]) (st' := [.int (M 1 6)]) (h' := mk M T) (fun _ => rfl) ?_
    refine R_top (y := nI P) (hP) ?_
    refine R_if 2 (c := (nI P) ≤ 6) (t := 33) (f := 27) (L' := [some (.ref 3), some (.int (-1))]) (st' := []) (h' := mk M T) (fun _ => rfl) (fun x2 => ?_) (fun x2 => ?_)
    · replace x2 : P ≤ 6 := (nI_leI (a := P) (b := 6) (by omega) (by omega)).mp x2
      refine R_go 4 (pc' := 41) (L' := [some (.ref 3), some (.int (-1))]) (st' := [.int (M 1 6), .int (-1)]) (h' := mk M T) (fun _ => rfl) ?_
      refine R_top (y := nI P) (hP) ?_
      refine R_if 1 (c := (-1) < (nI P)) (t := 50) (f := 44) (L' := [some (.ref 3), some (.int (-1))]) (st' := []) (h' := mk M T) (fun _ => rfl) (fun x3 => ?_) (fun x3 => ?_)
      · refine R_go 4 (pc' := 58) (L' := [some (.ref 3), some (.int (-1))]) (st' := [.ref 4, .ref 42]) (h' := mk M T) (fun _ => rfl) ?_
        refine R_callE (i := .invokevirtual 214) (kd := 0) (y := M_X3_takeBest) (as := [.ref 42, .ref 4]) (r := []) (L0 := [some (.ref 42), some (.ref 4)]) (v := fun M1 => none) (h' := fun M1 => mk M1 T) (pc' := 61) (st' := fun M1 => []) rfl rfl rfl rfl rfl rfl (c_takeBest (M0 := M) h0 FC_refl pm hs) (fun M1 x4 => ?_)
        have xw := x4
        refine R_go 5 (pc' := 72) (L' := [some (.ref 3), some (.int (-1))]) (st' := [.int (M1 39 5)]) (h' := mk M1 T) (fun _ => rfl) ?_
        refine R_top (y := encB (bst M P).1) (xw.2.2.2.1) ?_
        refine R_ret 2 (pcr := 83) (v := some (.int (encB (bst M P).1))) (h' := mk M1 T) (fun _ => rfl) ?_
        exact ⟨M1, xw.1, rfl, rfl⟩
      · exact absurd (m1_lt (by omega)) x3
    · replace x2 : ¬ P ≤ 6 := fun q => x2 ((nI_leI (a := P) (b := 6) (by omega) (by omega)).mpr q)
      omega
  · exact absurd (by decide) x1
set_option maxRecDepth 100000 in
set_option maxHeartbeats 4000000 in
theorem m_best_m {ro : xRO} {d : Nat} {M : xM} {T : Nat} {P : Nat} (hP : M 62 6 = nI P) (h8 : P ≤ 8) {M0 : xM} (h0 : Rel M0) (hf : FM M0 M) (hB : M 61 7 = 0) (pm : M0 62 6 = nI P) (hs : P ≤ 6) : Rn ro (d + 90) M_X8_best 0 [some (.ref 64), some (.int (-1))] [] (mk M T) (fun rr h => ∃ M', ((∀ c, c ≠ 61 → ¬ sIr c → M' c = M c) ∧ (∀ j, j ≠ 20 → M' 61 j = M 61 j)) ∧ rr = some (.int (encB (bst M0 P).1)) ∧ h = mk M' T) := by
  refine R_go 3 (pc' := 3) (L' := [some (.ref 64), some (.int (-1))]) (st' := [.int 5, .int (-1), .int (-1)]) (h' := mk M T) (fun _ => rfl) ?_
  refine R_call2 (i := .invokestatic 53) (kd := 1) (y := M_X8_in) (as := [.int (-1), .int (-1), .int 5]) (r := []) (L0 := [some (.int (-1)), some (.int (-1)), some (.int 5)]) (v1 := some (.int 1)) (v2 := some (.int 0)) (h1' := mk M T) (h2' := mk M T) (pc' := 6) (st1 := [.int 1]) (st2 := [.int 0]) rfl rfl rfl rfl rfl rfl (m_in) (fun x1 => ?_) (fun x1 => ?_)
  · refine R_go 5 (pc' := 23) (L' := [some (.ref 64), some (.int (-1))]) (st' := [.int (M 62 6)]) (h' := mk M T) (fun _ => rfl) ?_
    refine R_top (y := nI P) (hP) ?_
    refine R_if 2 (c := (nI P) ≤ 6) (t := 35) (f := 28) (L' := [some (.ref 64), some (.int (-1))]) (st' := []) (h' := mk M T) (fun _ => rfl) (fun x2 => ?_) (fun x2 => ?_)
    · replace x2 : P ≤ 6 := (nI_leI (a := P) (b := 6) (by omega) (by omega)).mp x2
      refine R_go 5 (pc' := 43) (L' := [some (.ref 64), some (.int (-1))]) (st' := [.int (M 62 6), .int (-1)]) (h' := mk M T) (fun _ => rfl) ?_
      refine R_top (y := nI P) (hP) ?_
      refine R_if 1 (c := (-1) < (nI P)) (t := 53) (f := 46) (L' := [some (.ref 64), some (.int (-1))]) (st' := []) (h' := mk M T) (fun _ => rfl) (fun x3 => ?_) (fun x3 => ?_)
      · refine R_go 1 (pc' := 54) (L' := [some (.ref 64), some (.int (-1))]) (st' := [.ref 64]) (h' := mk M T) (fun _ => rfl) ?_
        refine R_callE (i := .invokevirtual 197) (kd := 0) (y := M_X8_findBest) (as := [.ref 64]) (r := []) (L0 := [some (.ref 64)]) (v := fun M1 => none) (h' := fun M1 => mk M1 T) (pc' := 57) (st' := fun M1 => []) rfl rfl rfl rfl rfl rfl (c_findBest h0 hf hB pm hs) (fun M1 x4 => ?_)
        have xw := x4
        refine R_go 4 (pc' := 65) (L' := [some (.ref 64), some (.int (-1))]) (st' := [.int (M1 61 20)]) (h' := mk M1 T) (fun _ => rfl) ?_
        refine R_top (y := encB (bst M0 P).1) (xw.2.2.2.1) ?_
        refine R_ret 2 (pcr := 74) (v := some (.int (encB (bst M0 P).1))) (h' := mk M1 T) (fun _ => rfl) ?_
        exact ⟨M1, ⟨xw.1, xw.2.1⟩, rfl, rfl⟩
      · exact absurd (m1_lt (by omega)) x3
    · replace x2 : ¬ P ≤ 6 := fun q => x2 ((nI_leI (a := P) (b := 6) (by omega) (by omega)).mpr q)
      omega
  · exact absurd (by decide) x1
set_option maxRecDepth 100000 in
set_option maxHeartbeats 4000000 in
theorem x_best_i {ro : xRO} {d : Nat} {M : xM} {T : Nat} {P : Nat} (hP : M 1 6 = nI P) (h8 : P ≤ 8) (h0 : Rel M) (pm : M 62 6 = nI P) (hs : P ≤ 6) {n : Nat} (n5 : n ≤ 5) (hn : n < P) : Rn ro (d + 90) M_X7_best 0 [some (.ref 3), some (.int (nI n))] [] (mk M T) (fun rr h => ∃ M', (FS M M') ∧ rr = some (.int (nI ((bst M P).2 n))) ∧ h = mk M' T) := by
  refine R_go 3 (pc' := 3) (L' := [some (.ref 3), some (.int (nI n))]) (st' := [.int 5, .int (-1), .int (nI n)]) (h' := mk M T) (fun _ => rfl) ?_
  refine R_call2 (i := .invokestatic 78) (kd := 1) (y := M_X7_within) (as := [.int (nI n), .int (-1), .int 5]) (r := []) (L0 := [some (.int (nI n)), some (.int (-1)), some (.int 5)]) (v1 := some (.int 1)) (v2 := some (.int 0)) (h1' := mk M T) (h2' := mk M T) (pc' := 6) (st1 := [.int 1]) (st2 := [.int 0]) rfl rfl rfl rfl rfl rfl (c_within) (fun x1 => ?_) (fun x1 => ?_)
  · refine R_go 4 (pc' := 22) (L' := [some (.ref 3), some (.int (nI n))]) (st' := [.int (M 1 6)]) (h' := mk M T) (fun _ => rfl) ?_
    refine R_top (y := nI P) (hP) ?_
    refine R_if 2 (c := (nI P) ≤ 6) (t := 33) (f := 27) (L' := [some (.ref 3), some (.int (nI n))]) (st' := []) (h' := mk M T) (fun _ => rfl) (fun x2 => ?_) (fun x2 => ?_)
    · replace x2 : P ≤ 6 := (nI_leI (a := P) (b := 6) (by omega) (by omega)).mp x2
      refine R_go 4 (pc' := 41) (L' := [some (.ref 3), some (.int (nI n))]) (st' := [.int (M 1 6), .int (nI n)]) (h' := mk M T) (fun _ => rfl) ?_
      refine R_top (y := nI P) (hP) ?_
      refine R_if 1 (c := (nI n) < (nI P)) (t := 50) (f := 44) (L' := [some (.ref 3), some (.int (nI n))]) (st' := []) (h' := mk M T) (fun _ => rfl) (fun x3 => ?_) (fun x3 => ?_)
      · replace x3 : n < P := (nI_ltI (a := n) (b := P) (by omega) (by omega)).mp x3
        refine R_go 4 (pc' := 58) (L' := [some (.ref 3), some (.int (nI n))]) (st' := [.ref 4, .ref 42]) (h' := mk M T) (fun _ => rfl) ?_
        refine R_callE (i := .invokevirtual 214) (kd := 0) (y := M_X3_takeBest) (as := [.ref 42, .ref 4]) (r := []) (L0 := [some (.ref 42), some (.ref 4)]) (v := fun M1 => none) (h' := fun M1 => mk M1 T) (pc' := 61) (st' := fun M1 => []) rfl rfl rfl rfl rfl rfl (c_takeBest (M0 := M) h0 FC_refl pm hs) (fun M1 x4 => ?_)
        have xw := x4
        refine R_if 2 (c := 0 ≤ (nI n)) (t := 75) (f := 65) (L' := [some (.ref 3), some (.int (nI n))]) (st' := []) (h' := mk M1 T) (fun _ => rfl) (fun x5 => ?_) (fun x5 => ?_)
        · replace x5 : 0 ≤ n := (nI_leI (a := 0) (b := n) (by omega) (by omega)).mp x5
          refine R_go 3 (pc' := 80) (L' := [some (.ref 3), some (.int (nI n))]) (st' := [.int (nI n), .ref 42]) (h' := mk M1 T) (fun _ => rfl) ?_
          refine R_callD (i := .invokevirtual 221) (kd := 0) (y := M_X3_placeAt) (as := [.ref 42, .int (nI n)]) (r := []) (L0 := [some (.ref 42), some (.int (nI n))]) (v := some (.int (M1 42 n))) (h' := mk M1 T) (pc' := 83) (st' := [.int (M1 42 n)]) rfl rfl rfl rfl rfl rfl (c_placeAt (n := n) (by omega)) ?_
          refine R_top (y := nI ((bst M P).2 n)) (xw.2.2.2.2 n hn) ?_
          refine R_ret 1 (pcr := 83) (v := some (.int (nI (((bst M P).2 n))))) (h' := mk M1 T) (fun _ => rfl) ?_
          exact ⟨M1, xw.1, rfl, rfl⟩
        · replace x5 : ¬ 0 ≤ n := fun q => x5 ((nI_leI (a := 0) (b := n) (by omega) (by omega)).mpr q)
          omega
      · replace x3 : ¬ n < P := fun q => x3 ((nI_ltI (a := n) (b := P) (by omega) (by omega)).mpr q)
        omega
    · replace x2 : ¬ P ≤ 6 := fun q => x2 ((nI_leI (a := P) (b := 6) (by omega) (by omega)).mpr q)
      omega
  · exact absurd (m1_in n5) x1
set_option maxRecDepth 100000 in
set_option maxHeartbeats 4000000 in
theorem m_best_i {ro : xRO} {d : Nat} {M : xM} {T : Nat} {P : Nat} (hP : M 62 6 = nI P) (h8 : P ≤ 8) {M0 : xM} (h0 : Rel M0) (hf : FM M0 M) (hB : M 61 7 = 0) (pm : M0 62 6 = nI P) (hs : P ≤ 6) {n : Nat} (n5 : n ≤ 5) (hn : n < P) : Rn ro (d + 90) M_X8_best 0 [some (.ref 64), some (.int (nI n))] [] (mk M T) (fun rr h => ∃ M', ((∀ c, c ≠ 61 → ¬ sIr c → M' c = M c) ∧ (∀ j, j ≠ 20 → M' 61 j = M 61 j)) ∧ rr = some (.int (nI ((bst M0 P).2 n))) ∧ h = mk M' T) := by
  refine R_go 3 (pc' := 3) (L' := [some (.ref 64), some (.int (nI n))]) (st' := [.int 5, .int (-1), .int (nI n)]) (h' := mk M T) (fun _ => rfl) ?_
  refine R_call2 (i := .invokestatic 53) (kd := 1) (y := M_X8_in) (as := [.int (nI n), .int (-1), .int 5]) (r := []) (L0 := [some (.int (nI n)), some (.int (-1)), some (.int 5)]) (v1 := some (.int 1)) (v2 := some (.int 0)) (h1' := mk M T) (h2' := mk M T) (pc' := 6) (st1 := [.int 1]) (st2 := [.int 0]) rfl rfl rfl rfl rfl rfl (m_in) (fun x1 => ?_) (fun x1 => ?_)
  · refine R_go 5 (pc' := 23) (L' := [some (.ref 64), some (.int (nI n))]) (st' := [.int (M 62 6)]) (h' := mk M T) (fun _ => rfl) ?_
    refine R_top (y := nI P) (hP) ?_
    refine R_if 2 (c := (nI P) ≤ 6) (t := 35) (f := 28) (L' := [some (.ref 64), some (.int (nI n))]) (st' := []) (h' := mk M T) (fun _ => rfl) (fun x2 => ?_) (fun x2 => ?_)
    · replace x2 : P ≤ 6 := (nI_leI (a := P) (b := 6) (by omega) (by omega)).mp x2
      refine R_go 5 (pc' := 43) (L' := [some (.ref 64), some (.int (nI n))]) (st' := [.int (M 62 6), .int (nI n)]) (h' := mk M T) (fun _ => rfl) ?_
      refine R_top (y := nI P) (hP) ?_
      refine R_if 1 (c := (nI n) < (nI P)) (t := 53) (f := 46) (L' := [some (.ref 64), some (.int (nI n))]) (st' := []) (h' := mk M T) (fun _ => rfl) (fun x3 => ?_) (fun x3 => ?_)
      · replace x3 : n < P := (nI_ltI (a := n) (b := P) (by omega) (by omega)).mp x3
        refine R_go 1 (pc' := 54) (L' := [some (.ref 64), some (.int (nI n))]) (st' := [.ref 64]) (h' := mk M T) (fun _ => rfl) ?_
        refine R_callE (i := .invokevirtual 197) (kd := 0) (y := M_X8_findBest) (as := [.ref 64]) (r := []) (L0 := [some (.ref 64)]) (v := fun M1 => none) (h' := fun M1 => mk M1 T) (pc' := 57) (st' := fun M1 => []) rfl rfl rfl rfl rfl rfl (c_findBest h0 hf hB pm hs) (fun M1 x4 => ?_)
        have xw := x4
        refine R_if 2 (c := 0 ≤ (nI n)) (t := 68) (f := 61) (L' := [some (.ref 64), some (.int (nI n))]) (st' := []) (h' := mk M1 T) (fun _ => rfl) (fun x5 => ?_) (fun x5 => ?_)
        · replace x5 : 0 ≤ n := (nI_leI (a := 0) (b := n) (by omega) (by omega)).mp x5
          refine R_go 3 (pc' := 73) (L' := [some (.ref 64), some (.int (nI n))]) (st' := [.int (nI n), .ref 77]) (h' := mk M1 T) (fun _ => rfl) ?_
          refine R_iald (c := 74) (n := 6) (j := n) rfl rfl (by omega) (by decide) ?_
          refine R_top (y := nI (((bst M0 P).2 n))) (xw.2.2.2.2 n hn) ?_
          refine R_ret 1 (pcr := 74) (v := some (.int (nI (((bst M0 P).2 n))))) (h' := mk M1 T) (fun _ => rfl) ?_
          exact ⟨M1, ⟨xw.1, xw.2.1⟩, rfl, rfl⟩
        · replace x5 : ¬ 0 ≤ n := fun q => x5 ((nI_leI (a := 0) (b := n) (by omega) (by omega)).mpr q)
          omega
      · replace x3 : ¬ n < P := fun q => x3 ((nI_ltI (a := n) (b := P) (by omega) (by omega)).mpr q)
        omega
    · replace x2 : ¬ P ≤ 6 := fun q => x2 ((nI_leI (a := P) (b := 6) (by omega) (by omega)).mpr q)
      omega
  · exact absurd (m1_in n5) x1
set_option maxHeartbeats 4000000 in
theorem op_best {ro : xRO} {M : xM} {T : Nat} (h : Rel M) {v : Int32} : OpOK ro M_X7_best M_X8_best [some (.ref 3), some (.int v)] [some (.ref 64), some (.int v)] M T := by
  obtain ⟨P, H, h8, h6, pm, hm, px, hx, a, b1, b2, b3, b4, c2, c3, c4, c5⟩ := rel_all h
  by_cases hv : -1 ≤ v ∧ v ≤ 5
  · rcases Nat.lt_or_ge 6 P with hs | hs
    · exact OpOK.of (fun d => x_best_s px h8 hv hs) (fun d => m_best_s (M := up M 60 3 (M 60 3 + 1)) pm h8 hv hs) rfl (h.err 3 (by omega))
    · by_cases vm : v = -1
      · subst vm
        refine OpOK.ofE (A := fun r M1 => FS M M1 ∧ r = encB (bst M P).1) ?_ ?_
        · refine (x_best_m px h8 h pm hs).imp (fun _ _ q => ?_)
          obtain ⟨M', q1, q2, q3⟩ := q
          exact ⟨(_, M'), ⟨q1, rfl⟩, q2, q3⟩
        · intro r M1 hA
          obtain ⟨f1, rfl⟩ := hA
          have e62 := f1 62 (by unfold sIr; omega)
          have e61 := f1 61 (by unfold sIr; omega)
          have r1 := FS_rel h f1
          refine (m_best_m (M := M1) (M0 := M) (by rw [e62]; exact pm) h8 h (fun j _ _ _ => by rw [e62]) (by rw [e61]; exact h.2.2.2.2.2) pm hs).imp (fun _ _ q => ?_)
          obtain ⟨M', ⟨q1, q4⟩, q2, q3⟩ := q
          exact ⟨M', r1.irr (fun c b1 b2 b3 b4 b5 => q1 c b4 (by unfold sIr; omega)) (q4 2 (by omega)) ((q4 7 (by omega)).trans r1.2.2.2.2.2) (q4 22 (by omega)), q2, q3⟩
      · have hc : ∃ n, n ≤ 5 ∧ v = nI n := by
          rcases of_in v (b := 5) (by omega) with ⟨n, n5, e⟩ | q
          · exact ⟨n, n5, e⟩
          · exact absurd ⟨by grind, hv.2⟩ q
        obtain ⟨n, n5, rfl⟩ := hc
        rcases Nat.lt_or_ge n P with hn | hn
        · refine OpOK.ofE (A := fun r M1 => FS M M1 ∧ r = nI ((bst M P).2 n)) ?_ ?_
          · refine (x_best_i px h8 h pm hs n5 hn).imp (fun _ _ q => ?_)
            obtain ⟨M', q1, q2, q3⟩ := q
            exact ⟨(_, M'), ⟨q1, rfl⟩, q2, q3⟩
          · intro r M1 hA
            obtain ⟨f1, rfl⟩ := hA
            have e62 := f1 62 (by unfold sIr; omega)
            have e61 := f1 61 (by unfold sIr; omega)
            have r1 := FS_rel h f1
            refine (m_best_i (M := M1) (M0 := M) (by rw [e62]; exact pm) h8 h (fun j _ _ _ => by rw [e62]) (by rw [e61]; exact h.2.2.2.2.2) pm hs n5 hn).imp (fun _ _ q => ?_)
            obtain ⟨M', ⟨q1, q4⟩, q2, q3⟩ := q
            exact ⟨M', r1.irr (fun c b1 b2 b3 b4 b5 => q1 c b4 (by unfold sIr; omega)) (q4 2 (by omega)) ((q4 7 (by omega)).trans r1.2.2.2.2.2) (q4 22 (by omega)), q2, q3⟩
        · exact OpOK.of (fun d => x_best_n px h8 n5 hs hn) (fun d => m_best_n (M := up M 60 2 (M 60 2 + 1)) pm h8 n5 hs hn) rfl (h.err 2 (by omega))
  · exact OpOK.of (fun d => x_best_b hv) (fun d => m_best_b (M := up M 60 1 (M 60 1 + 1)) hv) rfl (h.err 1 (by omega))
