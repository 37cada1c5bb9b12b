/-! OPERATIONS: told, tell, wipe, names, become, count -/
theorem of_in1 (v : Int32) : (∃ n, 1 ≤ n ∧ n ≤ 6 ∧ v = nI n) ∨ ¬ (1 ≤ v ∧ v ≤ 6) := by
  rcases of_in v (b := 6) (by omega) with ⟨n, hn, rfl⟩ | h
  · by_cases h1 : 1 ≤ n
    · exact Or.inl ⟨n, h1, hn, rfl⟩
    · exact Or.inr fun q => h1 ((nI_leI (a := 1) (by omega) (by omega)).mp q.1)
  · exact Or.inr fun q => h ⟨by have := q.1; grind, q.2⟩
set_option maxRecDepth 100000 in
set_option maxHeartbeats 4000000 in
theorem x_told_in {ro : xRO} {d : Nat} {M : xM} {T : Nat} {n : Nat} (h1 : 1 ≤ n) (h6 : n ≤ 6) : Rn ro (d + 90) M_X7_told 0 [some (.ref 3), some (.int (nI n))] [] (mk M T) (fun r h => r = some (.int (M 60 n)) ∧ h = mk M T) := by
  refine R_if 3 (c := (nI n) < 1) (t := 29) (f := 5) (L' := [some (.ref 3), some (.int (nI n))]) (st' := []) (h' := mk M T) (fun _ => rfl) (fun g1 => ?_) (fun g1 => ?_)
  · replace g1 : n < 1 := (nI_ltI (a := n) (b := 1) (by omega) (by omega)).mp g1
    omega
  · replace g1 : ¬ n < 1 := fun q => g1 ((nI_ltI (a := n) (b := 1) (by omega) (by omega)).mpr q)
    refine R_if 3 (c := 6 < (nI n)) (t := 29) (f := 11) (L' := [some (.ref 3), some (.int (nI n))]) (st' := []) (h' := mk M T) (fun _ => rfl) (fun g2 => ?_) (fun g2 => ?_)
    · replace g2 : 6 < n := (nI_ltI (a := 6) (b := n) (by omega) (by omega)).mp g2
      omega
    · replace g2 : ¬ 6 < n := fun q => g2 ((nI_ltI (a := 6) (b := n) (by omega) (by omega)).mpr q)
      refine R_if 5 (c := 7 ≤ (nI n)) (t := 29) (f := 20) (L' := [some (.ref 3), some (.int (nI n))]) (st' := []) (h' := mk M T) (fun _ => rfl) (fun g3 => ?_) (fun g3 => ?_)
      · replace g3 : 7 ≤ n := (nI_leI (a := 7) (b := n) (by omega) (by omega)).mp g3
        omega
      · replace g3 : ¬ 7 ≤ n := fun q => g3 ((nI_leI (a := 7) (b := n) (by omega) (by omega)).mpr q)
        refine R_go 3 (pc' := 25) (L' := [some (.ref 3), some (.int (nI n))]) (st' := [.int (nI n), .ref 63]) (h' := mk M T) (fun _ => rfl) ?_
        refine R_iald (c := 60) (n := 7) (j := n) rfl rfl (by omega) (by decide) ?_
        refine R_ret 2 (pcr := 34) (v := some (.int (M 60 n))) (h' := mk M T) (fun _ => rfl) ?_
        exact ⟨rfl, rfl⟩
set_option maxRecDepth 100000 in
set_option maxHeartbeats 4000000 in
theorem m_told_in {ro : xRO} {d : Nat} {M : xM} {T : Nat} {n : Nat} (h1 : 1 ≤ n) (h6 : n ≤ 6) : Rn ro (d + 90) M_X8_told 0 [some (.ref 64), some (.int (nI n))] [] (mk M T) (fun r h => r = some (.int (M 64 n)) ∧ h = mk M T) := by
  refine R_go 3 (pc' := 4) (L' := [some (.ref 64), some (.int (nI n))]) (st' := [.int 6, .int 1, .int (nI n)]) (h' := mk M T) (fun _ => rfl) ?_
  refine R_call2 (i := .invokestatic 53) (kd := 1) (y := M_X8_in) (as := [.int (nI n), .int 1, .int 6]) (r := []) (L0 := [some (.int (nI n)), some (.int 1), some (.int 6)]) (v1 := some (.int 1)) (v2 := some (.int 0)) (h1' := mk M T) (h2' := mk M T) (pc' := 7) (st1 := [.int 1]) (st2 := [.int 0]) rfl rfl rfl rfl rfl rfl (m_in) (fun g1 => ?_) (fun g1 => ?_)
  · refine R_go 4 (pc' := 15) (L' := [some (.ref 64), some (.int (nI n))]) (st' := [.int (nI n), .ref 67]) (h' := mk M T) (fun _ => rfl) ?_
    refine R_iald (c := 64) (n := 7) (j := n) rfl rfl (by omega) (by decide) ?_
    refine R_ret 2 (pcr := 25) (v := some (.int (M 64 n))) (h' := mk M T) (fun _ => rfl) ?_
    exact ⟨rfl, rfl⟩
  · exact absurd (nI_in2 (a := 1) (b := 6) h1 h6 (by omega)) g1
set_option maxRecDepth 100000 in
set_option maxHeartbeats 4000000 in
theorem x_told_out {ro : xRO} {d : Nat} {M : xM} {T : Nat} {k : Int32} (hk : ¬ (1 ≤ k ∧ k ≤ 6)) : Rn ro (d + 90) M_X7_told 0 [some (.ref 3), some (.int k)] [] (mk M T) (fun r h => r = some (.int (-1000000001)) ∧ h = mk (up M 60 1 (M 60 1 + 1)) T) := by
  refine R_if 3 (c := k < 1) (t := 29) (f := 5) (L' := [some (.ref 3), some (.int k)]) (st' := []) (h' := mk M T) (fun _ => rfl) (fun g1 => ?_) (fun g1 => ?_)
  · refine R_go 2 (pc' := 31) (L' := [some (.ref 3), some (.int k)]) (st' := [.int 1, .ref 3]) (h' := mk M T) (fun _ => rfl) ?_
    refine R_callD (i := .invokevirtual 75) (kd := 0) (y := M_X7_error) (as := [.ref 3, .int 1]) (r := []) (L0 := [some (.ref 3), some (.int 1)]) (v := some (.int (-1000000001))) (h' := mk (up M 60 1 (M 60 1 + 1)) T) (pc' := 34) (st' := [.int (-1000000001)]) rfl rfl rfl rfl rfl rfl (c_error_1) ?_
    refine R_ret 1 (pcr := 34) (v := some (.int (-1000000001))) (h' := mk (up M 60 1 (M 60 1 + 1)) T) (fun _ => rfl) ?_
    exact ⟨rfl, rfl⟩
  · refine R_if 3 (c := 6 < k) (t := 29) (f := 11) (L' := [some (.ref 3), some (.int k)]) (st' := []) (h' := mk M T) (fun _ => rfl) (fun g2 => ?_) (fun g2 => ?_)
    · refine R_go 2 (pc' := 31) (L' := [some (.ref 3), some (.int k)]) (st' := [.int 1, .ref 3]) (h' := mk M T) (fun _ => rfl) ?_
      refine R_callD (i := .invokevirtual 75) (kd := 0) (y := M_X7_error) (as := [.ref 3, .int 1]) (r := []) (L0 := [some (.ref 3), some (.int 1)]) (v := some (.int (-1000000001))) (h' := mk (up M 60 1 (M 60 1 + 1)) T) (pc' := 34) (st' := [.int (-1000000001)]) rfl rfl rfl rfl rfl rfl (c_error_1) ?_
      refine R_ret 1 (pcr := 34) (v := some (.int (-1000000001))) (h' := mk (up M 60 1 (M 60 1 + 1)) T) (fun _ => rfl) ?_
      exact ⟨rfl, rfl⟩
    · exact absurd ⟨k2_le g1, k2_le g2⟩ hk
set_option maxRecDepth 100000 in
set_option maxHeartbeats 4000000 in
theorem m_told_out {ro : xRO} {d : Nat} {M : xM} {T : Nat} {k : Int32} (hk : ¬ (1 ≤ k ∧ k ≤ 6)) : Rn ro (d + 90) M_X8_told 0 [some (.ref 64), some (.int k)] [] (mk M T) (fun r h => r = some (.int (-1000000001)) ∧ h = mk (up M 64 1 (M 64 1 + 1)) T) := by
  refine R_go 3 (pc' := 4) (L' := [some (.ref 64), some (.int k)]) (st' := [.int 6, .int 1, .int k]) (h' := mk M T) (fun _ => rfl) ?_
  refine R_call2 (i := .invokestatic 53) (kd := 1) (y := M_X8_in) (as := [.int k, .int 1, .int 6]) (r := []) (L0 := [some (.int k), some (.int 1), some (.int 6)]) (v1 := some (.int 1)) (v2 := some (.int 0)) (h1' := mk M T) (h2' := mk M T) (pc' := 7) (st1 := [.int 1]) (st2 := [.int 0]) rfl rfl rfl rfl rfl rfl (m_in) (fun g1 => ?_) (fun g1 => ?_)
  · exact absurd g1 (hk)
  · refine R_go 3 (pc' := 22) (L' := [some (.ref 64), some (.int k)]) (st' := [.int (-1000000001), .ref 64]) (h' := mk M T) (fun _ => rfl) ?_
    refine R_callD (i := .invokevirtual 81) (kd := 0) (y := M_X8_error) (as := [.ref 64, .int (-1000000001)]) (r := []) (L0 := [some (.ref 64), some (.int (-1000000001))]) (v := some (.int (-1000000001))) (h' := mk (up M 64 1 (M 64 1 + 1)) T) (pc' := 25) (st' := [.int (-1000000001)]) rfl rfl rfl rfl rfl rfl (m_error_1) ?_
    refine R_ret 1 (pcr := 25) (v := some (.int (-1000000001))) (h' := mk (up M 64 1 (M 64 1 + 1)) T) (fun _ => rfl) ?_
    exact ⟨rfl, rfl⟩
set_option maxHeartbeats 4000000 in
theorem op_told {ro : xRO} {M : xM} {T : Nat} (h : Rel M) {k : Int32} : OpOK ro M_X7_told M_X8_told [some (.ref 3), some (.int k)] [some (.ref 64), some (.int k)] M T := by
  obtain ⟨P, H, h8, h6, pm, hm, px, hx, a, b1, b2, b3, b4, c2, c3, c4, c5⟩ := rel_all h
  rcases of_in1 k with ⟨n, n1, n6, rfl⟩ | hk
  · refine OpOK.of (fun d => x_told_in n1 n6) (fun d => m_told_in n1 n6) (h.2.2.2.1 n n1 n6).symm ?_
    exact h
  · exact OpOK.of (fun d => x_told_out hk) (fun d => m_told_out (M := up M 60 1 (M 60 1 + 1)) hk) rfl (h.err 1 (by omega))
set_option maxRecDepth 100000 in
set_option maxHeartbeats 4000000 in
theorem x_tell_in {ro : xRO} {d : Nat} {M : xM} {T : Nat} {WC : Nat} (hWC : M 1 9 = nI WC) (h24 : WC < 24) {v : Int32} : Rn ro (d + 90) M_X7_tell 0 [some (.ref 3), some (.int v)] [] (mk M T) (fun r h => r = some (.int (nI (WC + 1))) ∧ h = mk (up (up M 13 WC v) 1 9 (nI (WC + 1))) T) := by
  refine R_go 3 (pc' := 5) (L' := [some (.ref 3), some (.int v)]) (st' := [.int v, .ref 4]) (h' := mk M T) (fun _ => rfl) ?_
  refine R_callD (i := .invokevirtual 285) (kd := 0) (y := M_X0_addWaiting) (as := [.ref 4, .int v]) (r := []) (L0 := [some (.ref 4), some (.int v)]) (v := some (.int 1)) (h' := mk (up (up M 13 WC v) 1 9 (nI (WC + 1))) T) (pc' := 8) (st' := [.int 1]) rfl rfl rfl rfl rfl rfl (c_addWaiting_in hWC h24) ?_
  refine R_ret 6 (pcr := 26) (v := some (.int ((up (up M 13 WC v) 1 9 (nI (WC + 1))) 1 9))) (h' := mk (up (up M 13 WC v) 1 9 (nI (WC + 1))) T) (fun _ => rfl) ?_
  exact ⟨rfl, rfl⟩
set_option maxRecDepth 100000 in
set_option maxHeartbeats 4000000 in
theorem x_tell_full {ro : xRO} {d : Nat} {M : xM} {T : Nat} (hWC : M 1 9 = nI 24) {v : Int32} : Rn ro (d + 90) M_X7_tell 0 [some (.ref 3), some (.int v)] [] (mk M T) (fun r h => r = some (.int (-1000000004)) ∧ h = mk (up M 60 4 (M 60 4 + 1)) T) := by
  refine R_go 3 (pc' := 5) (L' := [some (.ref 3), some (.int v)]) (st' := [.int v, .ref 4]) (h' := mk M T) (fun _ => rfl) ?_
  refine R_callD (i := .invokevirtual 285) (kd := 0) (y := M_X0_addWaiting) (as := [.ref 4, .int v]) (r := []) (L0 := [some (.ref 4), some (.int v)]) (v := some (.int 0)) (h' := mk M T) (pc' := 8) (st' := [.int 0]) rfl rfl rfl rfl rfl rfl (c_addWaiting_out hWC) ?_
  refine R_go 3 (pc' := 23) (L' := [some (.ref 3), some (.int v)]) (st' := [.int 4, .ref 3]) (h' := mk M T) (fun _ => rfl) ?_
  refine R_callD (i := .invokevirtual 75) (kd := 0) (y := M_X7_error) (as := [.ref 3, .int 4]) (r := []) (L0 := [some (.ref 3), some (.int 4)]) (v := some (.int (-1000000004))) (h' := mk (up M 60 4 (M 60 4 + 1)) T) (pc' := 26) (st' := [.int (-1000000004)]) rfl rfl rfl rfl rfl rfl (c_error_4) ?_
  refine R_ret 1 (pcr := 26) (v := some (.int (-1000000004))) (h' := mk (up M 60 4 (M 60 4 + 1)) T) (fun _ => rfl) ?_
  exact ⟨rfl, rfl⟩
set_option maxRecDepth 100000 in
set_option maxHeartbeats 4000000 in
theorem m_tell_in {ro : xRO} {d : Nat} {M : xM} {T : Nat} {WC : Nat} (hWC : M 62 9 = nI WC) (h24 : WC < 24) {v : Int32} : Rn ro (d + 90) M_X8_tell 0 [some (.ref 64), some (.int v)] [] (mk M T) (fun r h => r = some (.int (nI (WC + 1))) ∧ h = mk (up (up M 62 (132 + WC) v) 62 9 (nI (WC + 1))) T) := by
  refine R_go 4 (pc' := 7) (L' := [some (.ref 64), some (.int v)]) (st' := [.int (M 62 9)]) (h' := mk M T) (fun _ => rfl) ?_
  refine R_top (y := nI WC) (hWC) ?_
  refine R_ifn 2 (c := (nI WC) = 24) (t := 19) (f := 12) (L' := [some (.ref 64), some (.int v)]) (st' := []) (h' := mk M T) (fun _ => rfl) (fun g1 => ?_) (fun g1 => ?_)
  · replace g1 : ¬ WC = 24 := fun q => g1 ((nI_eq (a := WC) (b := 24) (by omega) (by omega)).mpr q)
    refine R_go 7 (pc' := 33) (L' := [some (.ref 64), some (.int v)]) (st' := [.int (M 62 9), .int 132, .ref 65]) (h' := mk M T) (fun _ => rfl) ?_
    refine R_top (y := nI WC) (hWC) ?_
    refine R_go 1 (pc' := 34) (L' := [some (.ref 64), some (.int v)]) (st' := [.int (132 + nI WC), .ref 65]) (h' := mk M T) (fun _ => rfl) ?_
    refine R_top (nI_add 132 WC) ?_
    refine R_go 1 (pc' := 35) (L' := [some (.ref 64), some (.int v)]) (st' := [.int v, .int (nI (132 + WC)), .ref 65]) (h' := mk M T) (fun _ => rfl) ?_
    refine R_iast (c := 62) (n := 398) (j := 132 + WC) rfl rfl (by omega) (by decide) ?_
    refine R_go 5 (pc' := 44) (L' := [some (.ref 64), some (.int v)]) (st' := [.int ((up M 62 (132 + WC) v) 62 9), .int 9, .ref 65]) (h' := mk (up M 62 (132 + WC) v) T) (fun _ => rfl) ?_
    refine R_top (y := nI WC) ((by simp only [up_rd]; grind)) ?_
    refine R_go 2 (pc' := 46) (L' := [some (.ref 64), some (.int v)]) (st' := [.int (nI WC + 1), .int 9, .ref 65]) (h' := mk (up M 62 (132 + WC) v) T) (fun _ => rfl) ?_
    refine R_top (nI_add WC 1) ?_
    refine R_go 5 (pc' := 54) (L' := [some (.ref 64), some (.int v)]) (st' := [.int ((up (up M 62 (132 + WC) v) 62 9 (nI (WC + 1))) 62 9)]) (h' := mk (up (up M 62 (132 + WC) v) 62 9 (nI (WC + 1))) T) (fun _ => rfl) ?_
    refine R_top (y := nI (WC + 1)) ((by simp only [up_rd]; grind)) ?_
    refine R_ret 1 (pcr := 54) (v := some (.int (nI (WC + 1)))) (h' := mk (up (up M 62 (132 + WC) v) 62 9 (nI (WC + 1))) T) (fun _ => rfl) ?_
    exact ⟨rfl, rfl⟩
  · replace g1 : WC = 24 := (nI_eq (a := WC) (b := 24) (by omega) (by omega)).mp g1
    omega
set_option maxRecDepth 100000 in
set_option maxHeartbeats 4000000 in
theorem m_tell_full {ro : xRO} {d : Nat} {M : xM} {T : Nat} (hWC : M 62 9 = nI 24) {v : Int32} : Rn ro (d + 90) M_X8_tell 0 [some (.ref 64), some (.int v)] [] (mk M T) (fun r h => r = some (.int (-1000000004)) ∧ h = mk (up M 64 4 (M 64 4 + 1)) T) := by
  refine R_go 4 (pc' := 7) (L' := [some (.ref 64), some (.int v)]) (st' := [.int (M 62 9)]) (h' := mk M T) (fun _ => rfl) ?_
  refine R_top (y := 24) (hWC) ?_
  refine R_go 4 (pc' := 15) (L' := [some (.ref 64), some (.int v)]) (st' := [.int (-1000000004), .ref 64]) (h' := mk M T) (fun _ => rfl) ?_
  refine R_callD (i := .invokevirtual 81) (kd := 0) (y := M_X8_error) (as := [.ref 64, .int (-1000000004)]) (r := []) (L0 := [some (.ref 64), some (.int (-1000000004))]) (v := some (.int (-1000000004))) (h' := mk (up M 64 4 (M 64 4 + 1)) T) (pc' := 18) (st' := [.int (-1000000004)]) rfl rfl rfl rfl rfl rfl (m_error_4) ?_
  refine R_ret 1 (pcr := 18) (v := some (.int (-1000000004))) (h' := mk (up M 64 4 (M 64 4 + 1)) T) (fun _ => rfl) ?_
  exact ⟨rfl, rfl⟩
set_option maxHeartbeats 4000000 in
theorem op_tell {ro : xRO} {M : xM} {T : Nat} (h : Rel M) {v : Int32} : OpOK ro M_X7_tell M_X8_tell [some (.ref 3), some (.int v)] [some (.ref 64), some (.int v)] M T := by
  obtain ⟨P, H, h8, h6, pm, hm, px, hx, a, b1, b2, b3, b4, c2, c3, c4, c5⟩ := rel_all h
  obtain ⟨WC, w24, wm⟩ := c2.2.1
  have wx : M 1 9 = nI WC := a.2.1.trans wm
  rcases Nat.lt_or_ge WC 24 with q | q
  · refine OpOK.of (fun d => x_tell_in wx q) (fun d => m_tell_in (M := up (up M 13 WC v) 1 9 (nI (WC + 1))) wm q) rfl ?_
    have iw : iN (nI (WC + 1)) 24 := ⟨WC + 1, by omega, rfl⟩
    refine h.now ?_ ?_ ?_ ?_ ?_ ?_ ?_ P H ?_ ?_ ?_ ?_ ?_
    · intro c x y; simp only [up_ne x, up_ne (show c ≠ 1 from fun q => y (by omega)), up_ne (show c ≠ 11 from fun q => y (by omega)), up_ne (show c ≠ 12 from fun q => y (by omega)), up_ne (show c ≠ 13 from fun q => y (by omega))]
    · intro j hj; simp only [up_rd]; grind
    · unfold hsA; simp only [up_rd]; grind
    · intro p j hp hj; have := b1 p j hp hj; simp only [up_rd]; grind
    · intro i hi; have := b2 i hi; have := c5 i hi; simp only [up_rd]; grind
    · intro i hi; have := b3 i hi; simp only [up_rd]; grind
    · intro i hi; have := b4 i hi; simp only [up_rd]; grind
    · unfold rwA; simp only [up_rd]; grind
    · unfold rwB; simp only [up_rd]; grind
    · intro p hp; have := c3 p hp; simp only [up_rd]; grind
    · intro p hp; obtain ⟨he, e1, e2⟩ := c4 p (by omega); exact ⟨he, by omega, by simp only [up_rd]; grind⟩
    · intro i hi; have := c5 i hi; have : iN 0 99999 := ⟨0, by omega, rfl⟩; simp only [up_rd]; grind
  · obtain rfl : WC = 24 := by omega
    exact OpOK.of (fun d => x_tell_full wx) (fun d => m_tell_full (M := up M 60 4 (M 60 4 + 1)) wm) rfl (h.err 4 (by omega))
