/-! OPERATIONS on a pane: left, as, pane -/
theorem bit_0 {p : Nat} (h : p < 8) : ¬ ((0 : Int32) >>> (nI p &&& 31)) &&& 1 = 1 := by
  match p, h with
  | 0, _ => decide
  | 1, _ => decide
  | 2, _ => decide
  | 3, _ => decide
  | 4, _ => decide
  | 5, _ => decide
  | 6, _ => decide
  | 7, _ => decide
/-- a pane's numbers, on both sides -/
theorem pane_all {M : xM} {n : Nat} (b1 : ∀ p j, p < 8 → j < 7 → M (1 + 2 + p) j = M 62 (10 + 7 * p + j)) (c3 : ∀ p, p < 8 → iN (M 62 (10 + 7 * p + 0)) 6 ∧ iN (M 62 (10 + 7 * p + 1)) 9 ∧ iN (M 62 (10 + 7 * p + 2)) 3 ∧ iN (M 62 (10 + 7 * p + 3)) 9 ∧ iN (M 62 (10 + 7 * p + 4)) 9 ∧ iN (M 62 (10 + 7 * p + 5)) 5 ∧ iN (M 62 (10 + 7 * p + 6)) 99) (hn : n < 8) : ∃ kd m fc cl : Nat, paneF M (3 + n) kd m fc cl ∧ rpF M n kd m fc cl := by
  obtain ⟨⟨kd, k1, k2⟩, ⟨m, m1, m2⟩, ⟨fc, f1, f2⟩, ⟨cl, l1, l2⟩, -⟩ := c3 n hn
  exact ⟨kd, m, fc, cl, ⟨(b1 n 0 hn (by omega)).trans k2, (b1 n 1 hn (by omega)).trans m2, (b1 n 2 hn (by omega)).trans f2, (b1 n 3 hn (by omega)).trans l2, by omega, by omega, by omega, by omega⟩, k2, m2, f2, l2, by omega, by omega, by omega, by omega⟩
set_option maxRecDepth 100000 in
set_option maxHeartbeats 4000000 in
theorem x_left_o {ro : xRO} {d : Nat} {M : xM} {T : Nat} {P : Nat} (hP : M 1 6 = nI P) (h8 : P ≤ 8) {i : Int32} (hi : ¬ (0 ≤ i ∧ i < nI P)) {v : Int32} : Rn ro (d + 90) M_X7_left 0 [some (.ref 3), some (.int i), some (.int v), none] [] (mk M T) (fun r h => r = some (.int (-1000000001)) ∧ h = mk (up M 60 1 (M 60 1 + 1)) T) := by
  refine R_go 3 (pc' := 5) (L' := [some (.ref 3), some (.int i), some (.int v), none]) (st' := [.int i, .ref 4]) (h' := mk M T) (fun _ => rfl) ?_
  refine R_callD (i := .invokevirtual 116) (kd := 0) (y := M_X0_paneAt) (as := [.ref 4, .int i]) (r := []) (L0 := [some (.ref 4), some (.int i)]) (v := some (.null)) (h' := mk M T) (pc' := 8) (st' := [.null]) rfl rfl rfl rfl rfl rfl (c_paneAt_out hP h8 hi) ?_
  refine R_go 5 (pc' := 25) (L' := [some (.ref 3), some (.int i), some (.int v), some (.null)]) (st' := [.int 1, .ref 3]) (h' := mk M T) (fun _ => rfl) ?_
  refine R_callD (i := .invokevirtual 75) (kd := 0) (y := M_X7_error) (as := [.ref 3, .int 1]) (r := []) (L0 := [some (.ref 3), some (.int 1)]) (v := some (.int (-1000000001))) (h' := mk (up M 60 1 (M 60 1 + 1)) T) (pc' := 28) (st' := [.int (-1000000001)]) rfl rfl rfl rfl rfl rfl (c_error_1) ?_
  refine R_ret 1 (pcr := 28) (v := some (.int (-1000000001))) (h' := mk (up M 60 1 (M 60 1 + 1)) T) (fun _ => rfl) ?_
  exact ⟨rfl, rfl⟩
set_option maxRecDepth 100000 in
set_option maxHeartbeats 4000000 in
theorem m_left_o {ro : xRO} {d : Nat} {M : xM} {T : Nat} {P : Nat} (hP : M 62 6 = nI P) (h8 : P ≤ 8) {i : Int32} (hi : ¬ (0 ≤ i ∧ i < nI P)) {v : Int32} : Rn ro (d + 90) M_X8_left 0 [some (.ref 64), some (.int i), some (.int v)] [] (mk M T) (fun r h => r = some (.int (-1000000001)) ∧ h = mk (up M 64 1 (M 64 1 + 1)) T) := by
  refine R_go 2 (pc' := 2) (L' := [some (.ref 64), some (.int i), some (.int v)]) (st' := [.int i, .ref 64]) (h' := mk M T) (fun _ => rfl) ?_
  refine R_call2 (i := .invokevirtual 92) (kd := 0) (y := M_X8_isPane) (as := [.ref 64, .int i]) (r := []) (L0 := [some (.ref 64), some (.int i)]) (v1 := some (.int 1)) (v2 := some (.int 0)) (h1' := mk M T) (h2' := mk M T) (pc' := 5) (st1 := [.int 1]) (st2 := [.int 0]) rfl rfl rfl rfl rfl rfl (m_isPane hP h8) (fun g1 => ?_) (fun g1 => ?_)
  · exact absurd g1 (hi)
  · refine R_go 3 (pc' := 30) (L' := [some (.ref 64), some (.int i), some (.int v)]) (st' := [.int (-1000000001), .ref 64]) (h' := mk M T) (fun _ => rfl) ?_
    refine R_callD (i := .invokevirtual 81) (kd := 0) (y := M_X8_error) (as := [.ref 64, .int (-1000000001)]) (r := []) (L0 := [some (.ref 64), some (.int (-1000000001))]) (v := some (.int (-1000000001))) (h' := mk (up M 64 1 (M 64 1 + 1)) T) (pc' := 33) (st' := [.int (-1000000001)]) rfl rfl rfl rfl rfl rfl (m_error_1) ?_
    refine R_ret 1 (pcr := 33) (v := some (.int (-1000000001))) (h' := mk (up M 64 1 (M 64 1 + 1)) T) (fun _ => rfl) ?_
    exact ⟨rfl, rfl⟩
set_option maxRecDepth 100000 in
set_option maxHeartbeats 4000000 in
theorem x_left_i {ro : xRO} {d : Nat} {M : xM} {T : Nat} {P : Nat} (hP : M 1 6 = nI P) (h8 : P ≤ 8) {n : Nat} (hn : n < P) {kd m fc cl cold lamp t : Nat} (hF : paneF M (3 + n) kd m fc cl) (hc : M 1 11 = nI cold) (hl : M 1 13 = nI lamp) (c1 : cold ≤ 40) (l1 : lamp ≤ 1) (ht : t ≤ 23) : Rn ro (d + 90) M_X7_left 0 [some (.ref 3), some (.int (nI n)), some (.int (nI t)), none] [] (mk M T) (fun r h => r = some (.int (nI (lftN kd m fc cl t cold lamp))) ∧ h = mk M T) := by
  refine R_go 3 (pc' := 5) (L' := [some (.ref 3), some (.int (nI n)), some (.int (nI t)), none]) (st' := [.int (nI n), .ref 4]) (h' := mk M T) (fun _ => rfl) ?_
  refine R_callD (i := .invokevirtual 116) (kd := 0) (y := M_X0_paneAt) (as := [.ref 4, .int (nI n)]) (r := []) (L0 := [some (.ref 4), some (.int (nI n))]) (v := some (.ref (3 + n + 3))) (h' := mk M T) (pc' := 8) (st' := [.ref (3 + n + 3)]) rfl rfl rfl rfl rfl rfl (c_paneAt_in hP h8 hn) ?_
  refine R_go 6 (pc' := 17) (L' := [some (.ref 3), some (.int (nI n)), some (.int (nI t)), some (.ref (3 + n + 3))]) (st' := [.int 23, .int 0, .int (nI t)]) (h' := mk M T) (fun _ => rfl) ?_
  refine R_call2 (i := .invokestatic 78) (kd := 1) (y := M_X7_within) (as := [.int (nI t), .int 0, .int 23]) (r := []) (L0 := [some (.int (nI t)), some (.int 0), some (.int 23)]) (v1 := some (.int 1)) (v2 := some (.int 0)) (h1' := mk M T) (h2' := mk M T) (pc' := 20) (st1 := [.int 1]) (st2 := [.int 0]) rfl rfl rfl rfl rfl rfl (c_within) (fun g1 => ?_) (fun g1 => ?_)
  · refine R_go 6 (pc' := 38) (L' := [some (.ref 3), some (.int (nI n)), some (.int (nI t)), some (.ref (3 + n + 3))]) (st' := [.int (M 1 11), .int (nI t), .ref (3 + n + 3)]) (h' := mk M T) (fun _ => rfl) ?_
    refine R_top (y := nI cold) (hc) ?_
    refine R_go 3 (pc' := 45) (L' := [some (.ref 3), some (.int (nI n)), some (.int (nI t)), some (.ref (3 + n + 3))]) (st' := [.int (M 1 13), .int (nI cold), .int (nI t), .ref (3 + n + 3)]) (h' := mk M T) (fun _ => rfl) ?_
    refine R_top (y := nI lamp) (hl) ?_
    refine R_callD (i := .invokevirtual 211) (kd := 0) (y := M_X1_leftAt) (as := [.ref (3 + n + 3), .int (nI t), .int (nI cold), .int (nI lamp)]) (r := []) (L0 := [some (.ref (3 + n + 3)), some (.int (nI t)), some (.int (nI cold)), some (.int (nI lamp))]) (v := some (.int (nI (lftN kd m fc cl t cold lamp)))) (h' := mk M T) (pc' := 48) (st' := [.int (nI (lftN kd m fc cl t cold lamp))]) rfl rfl rfl rfl (xPre_c (sh_pane (by omega)) rfl rfl rfl rfl) rfl (c_leftAt (sh_pane (by omega)) hF (by omega) c1 l1) ?_
    refine R_ret 1 (pcr := 48) (v := some (.int (nI (lftN kd m fc cl t cold lamp)))) (h' := mk M T) (fun _ => rfl) ?_
    exact ⟨rfl, rfl⟩
  · exact absurd (nI_in2 (a := 0) (b := 23) (by omega) ht (by omega)) g1
set_option maxRecDepth 100000 in
set_option maxHeartbeats 4000000 in
theorem m_left_i {ro : xRO} {d : Nat} {M : xM} {T : Nat} {P : Nat} (hP : M 62 6 = nI P) (h8 : P ≤ 8) {n : Nat} (hn : n < P) {kd m fc cl cold lamp t : Nat} (hF : rpF M n kd m fc cl) (hc : M 62 0 = nI cold) (hl : M 62 2 = nI lamp) (c1 : cold ≤ 40) (l1 : lamp ≤ 1) (hb : M 61 7 = 0) (ht : t ≤ 23) : Rn ro (d + 90) M_X8_left 0 [some (.ref 64), some (.int (nI n)), some (.int (nI t))] [] (mk M T) (fun r h => r = some (.int (nI (lftN kd m fc cl t cold lamp))) ∧ h = mk M T) := by
  refine R_go 2 (pc' := 2) (L' := [some (.ref 64), some (.int (nI n)), some (.int (nI t))]) (st' := [.int (nI n), .ref 64]) (h' := mk M T) (fun _ => rfl) ?_
  refine R_call2 (i := .invokevirtual 92) (kd := 0) (y := M_X8_isPane) (as := [.ref 64, .int (nI n)]) (r := []) (L0 := [some (.ref 64), some (.int (nI n))]) (v1 := some (.int 1)) (v2 := some (.int 0)) (h1' := mk M T) (h2' := mk M T) (pc' := 5) (st1 := [.int 1]) (st2 := [.int 0]) rfl rfl rfl rfl rfl rfl (m_isPane hP h8) (fun g1 => ?_) (fun g1 => ?_)
  · refine R_go 4 (pc' := 12) (L' := [some (.ref 64), some (.int (nI n)), some (.int (nI t))]) (st' := [.int 23, .int 0, .int (nI t)]) (h' := mk M T) (fun _ => rfl) ?_
    refine R_call2 (i := .invokestatic 53) (kd := 1) (y := M_X8_in) (as := [.int (nI t), .int 0, .int 23]) (r := []) (L0 := [some (.int (nI t)), some (.int 0), some (.int 23)]) (v1 := some (.int 1)) (v2 := some (.int 0)) (h1' := mk M T) (h2' := mk M T) (pc' := 15) (st1 := [.int 1]) (st2 := [.int 0]) rfl rfl rfl rfl rfl rfl (m_in) (fun g2 => ?_) (fun g2 => ?_)
    · refine R_go 4 (pc' := 21) (L' := [some (.ref 64), some (.int (nI n)), some (.int (nI t))]) (st' := [.int (nI t), .int (nI n), .ref 64]) (h' := mk M T) (fun _ => rfl) ?_
      refine R_callD (i := .invokevirtual 159) (kd := 0) (y := M_X8_leftOf) (as := [.ref 64, .int (nI n), .int (nI t)]) (r := []) (L0 := [some (.ref 64), some (.int (nI n)), some (.int (nI t)), none, none, none]) (v := some (.int (nI (lftN kd m fc cl t cold lamp)))) (h' := mk M T) (pc' := 24) (st' := [.int (nI (lftN kd m fc cl t cold lamp))]) rfl rfl rfl rfl rfl rfl (m_leftOf (by omega) hF hc hl c1 l1 (by omega) (by rw [hb]; exact bit_0 (by omega))) ?_
      refine R_ret 2 (pcr := 33) (v := some (.int (nI (lftN kd m fc cl t cold lamp)))) (h' := mk M T) (fun _ => rfl) ?_
      exact ⟨rfl, rfl⟩
    · exact absurd (nI_in2 (a := 0) (b := 23) (by omega) ht (by omega)) g2
  · exact absurd (⟨nI_pos' (by omega), nI_lt hn (by omega)⟩) g1
set_option maxRecDepth 100000 in
set_option maxHeartbeats 4000000 in
theorem x_left_b {ro : xRO} {d : Nat} {M : xM} {T : Nat} {P : Nat} (hP : M 1 6 = nI P) (h8 : P ≤ 8) {n : Nat} (hn : n < P) {v : Int32} (hv : ¬ (0 ≤ v ∧ v ≤ 23)) : Rn ro (d + 90) M_X7_left 0 [some (.ref 3), some (.int (nI n)), some (.int v), none] [] (mk M T) (fun r h => r = some (.int (-1000000001)) ∧ h = mk (up M 60 1 (M 60 1 + 1)) T) := by
  refine R_go 3 (pc' := 5) (L' := [some (.ref 3), some (.int (nI n)), some (.int v), none]) (st' := [.int (nI n), .ref 4]) (h' := mk M T) (fun _ => rfl) ?_
  refine R_callD (i := .invokevirtual 116) (kd := 0) (y := M_X0_paneAt) (as := [.ref 4, .int (nI n)]) (r := []) (L0 := [some (.ref 4), some (.int (nI n))]) (v := some (.ref (3 + n + 3))) (h' := mk M T) (pc' := 8) (st' := [.ref (3 + n + 3)]) rfl rfl rfl rfl rfl rfl (c_paneAt_in hP h8 hn) ?_
  refine R_go 6 (pc' := 17) (L' := [some (.ref 3), some (.int (nI n)), some (.int v), some (.ref (3 + n + 3))]) (st' := [.int 23, .int 0, .int v]) (h' := mk M T) (fun _ => rfl) ?_
  refine R_call2 (i := .invokestatic 78) (kd := 1) (y := M_X7_within) (as := [.int v, .int 0, .int 23]) (r := []) (L0 := [some (.int v), some (.int 0), some (.int 23)]) (v1 := some (.int 1)) (v2 := some (.int 0)) (h1' := mk M T) (h2' := mk M T) (pc' := 20) (st1 := [.int 1]) (st2 := [.int 0]) rfl rfl rfl rfl rfl rfl (c_within) (fun g1 => ?_) (fun g1 => ?_)
  · exact absurd g1 (hv)
  · refine R_go 3 (pc' := 25) (L' := [some (.ref 3), some (.int (nI n)), some (.int v), some (.ref (3 + n + 3))]) (st' := [.int 1, .ref 3]) (h' := mk M T) (fun _ => rfl) ?_
    refine R_callD (i := .invokevirtual 75) (kd := 0) (y := M_X7_error) (as := [.ref 3, .int 1]) (r := []) (L0 := [some (.ref 3), some (.int 1)]) (v := some (.int (-1000000001))) (h' := mk (up M 60 1 (M 60 1 + 1)) T) (pc' := 28) (st' := [.int (-1000000001)]) rfl rfl rfl rfl rfl rfl (c_error_1) ?_
    refine R_ret 1 (pcr := 28) (v := some (.int (-1000000001))) (h' := mk (up M 60 1 (M 60 1 + 1)) T) (fun _ => rfl) ?_
    exact ⟨rfl, rfl⟩
set_option maxRecDepth 100000 in
set_option maxHeartbeats 4000000 in
theorem m_left_b {ro : xRO} {d : Nat} {M : xM} {T : Nat} {P : Nat} (hP : M 62 6 = nI P) (h8 : P ≤ 8) {n : Nat} (hn : n < P) {v : Int32} (hv : ¬ (0 ≤ v ∧ v ≤ 23)) : Rn ro (d + 90) M_X8_left 0 [some (.ref 64), some (.int (nI n)), some (.int v)] [] (mk M T) (fun r h => r = some (.int (-1000000001)) ∧ h = mk (up M 64 1 (M 64 1 + 1)) T) := by
  refine R_go 2 (pc' := 2) (L' := [some (.ref 64), some (.int (nI n)), some (.int v)]) (st' := [.int (nI n), .ref 64]) (h' := mk M T) (fun _ => rfl) ?_
  refine R_call2 (i := .invokevirtual 92) (kd := 0) (y := M_X8_isPane) (as := [.ref 64, .int (nI n)]) (r := []) (L0 := [some (.ref 64), some (.int (nI n))]) (v1 := some (.int 1)) (v2 := some (.int 0)) (h1' := mk M T) (h2' := mk M T) (pc' := 5) (st1 := [.int 1]) (st2 := [.int 0]) rfl rfl rfl rfl rfl rfl (m_isPane hP h8) (fun g1 => ?_) (fun g1 => ?_)
  · refine R_go 4 (pc' := 12) (L' := [some (.ref 64), some (.int (nI n)), some (.int v)]) (st' := [.int 23, .int 0, .int v]) (h' := mk M T) (fun _ => rfl) ?_
    refine R_call2 (i := .invokestatic 53) (kd := 1) (y := M_X8_in) (as := [.int v, .int 0, .int 23]) (r := []) (L0 := [some (.int v), some (.int 0), some (.int 23)]) (v1 := some (.int 1)) (v2 := some (.int 0)) (h1' := mk M T) (h2' := mk M T) (pc' := 15) (st1 := [.int 1]) (st2 := [.int 0]) rfl rfl rfl rfl rfl rfl (m_in) (fun g2 => ?_) (fun g2 => ?_)
    · exact absurd g2 (hv)
    · refine R_go 3 (pc' := 30) (L' := [some (.ref 64), some (.int (nI n)), some (.int v)]) (st' := [.int (-1000000001), .ref 64]) (h' := mk M T) (fun _ => rfl) ?_
      refine R_callD (i := .invokevirtual 81) (kd := 0) (y := M_X8_error) (as := [.ref 64, .int (-1000000001)]) (r := []) (L0 := [some (.ref 64), some (.int (-1000000001))]) (v := some (.int (-1000000001))) (h' := mk (up M 64 1 (M 64 1 + 1)) T) (pc' := 33) (st' := [.int (-1000000001)]) rfl rfl rfl rfl rfl rfl (m_error_1) ?_
      refine R_ret 1 (pcr := 33) (v := some (.int (-1000000001))) (h' := mk (up M 64 1 (M 64 1 + 1)) T) (fun _ => rfl) ?_
      exact ⟨rfl, rfl⟩
  · exact absurd (⟨nI_pos' (by omega), nI_lt hn (by omega)⟩) g1
set_option maxHeartbeats 4000000 in
theorem op_left {ro : xRO} {M : xM} {T : Nat} (h : Rel M) {i v : Int32} : OpOK ro M_X7_left M_X8_left [some (.ref 3), some (.int i), some (.int v), none] [some (.ref 64), some (.int i), some (.int v)] M T := by
  obtain ⟨P, H, h8, h6, pm, hm, px, hx, a, b1, b2, b3, b4, c2, c3, c4, c5⟩ := rel_all h
  obtain ⟨cold, cc1, cc2⟩ := c2.2.2.1
  obtain ⟨lamp, ll1, ll2⟩ := c2.2.2.2.2.1
  rcases nI_cases i P (by omega) with ⟨n, hn, rfl⟩ | hi
  · rcases of_in v (b := 23) (by omega) with ⟨t, ht, rfl⟩ | hv
    · obtain ⟨kd, m, fc, cl, hF, hG⟩ := pane_all b1 c3 (n := n) (by omega)
      exact OpOK.of (fun d => x_left_i px h8 hn hF (a.2.2.2.1.trans cc2) (a.2.2.2.2.2.1.trans ll2) cc1 ll1 ht) (fun d => m_left_i pm h8 hn hG cc2 ll2 cc1 ll1 h.2.2.2.2.2 ht) rfl h
    · exact OpOK.of (fun d => x_left_b px h8 hn hv) (fun d => m_left_b (M := up M 60 1 (M 60 1 + 1)) pm h8 hn hv) rfl (h.err 1 (by omega))
  · exact OpOK.of (fun d => x_left_o px h8 hi) (fun d => m_left_o (M := up M 60 1 (M 60 1 + 1)) pm h8 hi) rfl (h.err 1 (by omega))
