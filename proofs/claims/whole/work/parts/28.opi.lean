/-! OPERATIONS: count, paneIs -/
theorem tsw_out {v a b : Int32} {x y : Int} (ha : a.toInt = x) (hb : b.toInt = y) (h : ¬ (a ≤ v ∧ v ≤ b)) : v.toInt < x ∨ y < v.toInt := by
  rw [Int32.le_iff_toInt_le, Int32.le_iff_toInt_le, ha, hb] at h
  omega
set_option maxRecDepth 100000 in
set_option maxHeartbeats 4000000 in
theorem x_count_0 {ro : xRO} {d : Nat} {M : xM} {T : Nat}  : Rn ro (d + 90) M_X7_count 0 [some (.ref 3), some (.int 0)] [] (mk M T) (fun r h => r = some (.int (M 1 6)) ∧ h = mk M T) := by
  refine R_ret 6 (pcr := 67) (v := some (.int (M 1 6))) (h' := mk M T) (fun _ => rfl) ?_
  exact ⟨rfl, rfl⟩
set_option maxRecDepth 100000 in
set_option maxHeartbeats 4000000 in
theorem m_count_0 {ro : xRO} {d : Nat} {M : xM} {T : Nat}  : Rn ro (d + 90) M_X8_count 0 [some (.ref 64), some (.int 0)] [] (mk M T) (fun r h => r = some (.int (M 62 6)) ∧ h = mk M T) := by
  refine R_ret 7 (pcr := 67) (v := some (.int (M 62 6))) (h' := mk M T) (fun _ => rfl) ?_
  exact ⟨rfl, rfl⟩
set_option maxRecDepth 100000 in
set_option maxHeartbeats 4000000 in
theorem x_count_1 {ro : xRO} {d : Nat} {M : xM} {T : Nat}  : Rn ro (d + 90) M_X7_count 0 [some (.ref 3), some (.int 1)] [] (mk M T) (fun r h => r = some (.int (M 1 7)) ∧ h = mk M T) := by
  refine R_ret 6 (pcr := 75) (v := some (.int (M 1 7))) (h' := mk M T) (fun _ => rfl) ?_
  exact ⟨rfl, rfl⟩
set_option maxRecDepth 100000 in
set_option maxHeartbeats 4000000 in
theorem m_count_1 {ro : xRO} {d : Nat} {M : xM} {T : Nat}  : Rn ro (d + 90) M_X8_count 0 [some (.ref 64), some (.int 1)] [] (mk M T) (fun r h => r = some (.int (M 62 7)) ∧ h = mk M T) := by
  refine R_ret 7 (pcr := 75) (v := some (.int (M 62 7))) (h' := mk M T) (fun _ => rfl) ?_
  exact ⟨rfl, rfl⟩
set_option maxRecDepth 100000 in
set_option maxHeartbeats 4000000 in
theorem x_count_2 {ro : xRO} {d : Nat} {M : xM} {T : Nat}  : Rn ro (d + 90) M_X7_count 0 [some (.ref 3), some (.int 2)] [] (mk M T) (fun r h => r = some (.int (M 1 11)) ∧ h = mk M T) := by
  refine R_ret 6 (pcr := 83) (v := some (.int (M 1 11))) (h' := mk M T) (fun _ => rfl) ?_
  exact ⟨rfl, rfl⟩
set_option maxRecDepth 100000 in
set_option maxHeartbeats 4000000 in
theorem m_count_2 {ro : xRO} {d : Nat} {M : xM} {T : Nat}  : Rn ro (d + 90) M_X8_count 0 [some (.ref 64), some (.int 2)] [] (mk M T) (fun r h => r = some (.int (M 62 0)) ∧ h = mk M T) := by
  refine R_ret 11 (pcr := 86) (v := some (.int (M 62 0))) (h' := mk M T) (fun _ => rfl) ?_
  exact ⟨rfl, rfl⟩
set_option maxRecDepth 100000 in
set_option maxHeartbeats 4000000 in
theorem x_count_3 {ro : xRO} {d : Nat} {M : xM} {T : Nat}  : Rn ro (d + 90) M_X7_count 0 [some (.ref 3), some (.int 3)] [] (mk M T) (fun r h => r = some (.int (M 1 12)) ∧ h = mk M T) := by
  refine R_ret 6 (pcr := 91) (v := some (.int (M 1 12))) (h' := mk M T) (fun _ => rfl) ?_
  exact ⟨rfl, rfl⟩
set_option maxRecDepth 100000 in
set_option maxHeartbeats 4000000 in
theorem m_count_3 {ro : xRO} {d : Nat} {M : xM} {T : Nat}  : Rn ro (d + 90) M_X8_count 0 [some (.ref 64), some (.int 3)] [] (mk M T) (fun r h => r = some (.int (M 62 1)) ∧ h = mk M T) := by
  refine R_ret 11 (pcr := 86) (v := some (.int (M 62 1))) (h' := mk M T) (fun _ => rfl) ?_
  exact ⟨rfl, rfl⟩
set_option maxRecDepth 100000 in
set_option maxHeartbeats 4000000 in
theorem x_count_4 {ro : xRO} {d : Nat} {M : xM} {T : Nat}  : Rn ro (d + 90) M_X7_count 0 [some (.ref 3), some (.int 4)] [] (mk M T) (fun r h => r = some (.int (M 1 13)) ∧ h = mk M T) := by
  refine R_ret 6 (pcr := 99) (v := some (.int (M 1 13))) (h' := mk M T) (fun _ => rfl) ?_
  exact ⟨rfl, rfl⟩
set_option maxRecDepth 100000 in
set_option maxHeartbeats 4000000 in
theorem m_count_4 {ro : xRO} {d : Nat} {M : xM} {T : Nat}  : Rn ro (d + 90) M_X8_count 0 [some (.ref 64), some (.int 4)] [] (mk M T) (fun r h => r = some (.int (M 62 2)) ∧ h = mk M T) := by
  refine R_ret 11 (pcr := 86) (v := some (.int (M 62 2))) (h' := mk M T) (fun _ => rfl) ?_
  exact ⟨rfl, rfl⟩
set_option maxRecDepth 100000 in
set_option maxHeartbeats 4000000 in
theorem x_count_5 {ro : xRO} {d : Nat} {M : xM} {T : Nat}  : Rn ro (d + 90) M_X7_count 0 [some (.ref 3), some (.int 5)] [] (mk M T) (fun r h => r = some (.int (M 1 14)) ∧ h = mk M T) := by
  refine R_ret 6 (pcr := 107) (v := some (.int (M 1 14))) (h' := mk M T) (fun _ => rfl) ?_
  exact ⟨rfl, rfl⟩
set_option maxRecDepth 100000 in
set_option maxHeartbeats 4000000 in
theorem m_count_5 {ro : xRO} {d : Nat} {M : xM} {T : Nat}  : Rn ro (d + 90) M_X8_count 0 [some (.ref 64), some (.int 5)] [] (mk M T) (fun r h => r = some (.int (M 62 3)) ∧ h = mk M T) := by
  refine R_ret 7 (pcr := 93) (v := some (.int (M 62 3))) (h' := mk M T) (fun _ => rfl) ?_
  exact ⟨rfl, rfl⟩
set_option maxRecDepth 100000 in
set_option maxHeartbeats 4000000 in
theorem x_count_6 {ro : xRO} {d : Nat} {M : xM} {T : Nat}  : Rn ro (d + 90) M_X7_count 0 [some (.ref 3), some (.int 6)] [] (mk M T) (fun r h => r = some (.int (M 1 10)) ∧ h = mk M T) := by
  refine R_ret 6 (pcr := 115) (v := some (.int (M 1 10))) (h' := mk M T) (fun _ => rfl) ?_
  exact ⟨rfl, rfl⟩
set_option maxRecDepth 100000 in
set_option maxHeartbeats 4000000 in
theorem m_count_6 {ro : xRO} {d : Nat} {M : xM} {T : Nat}  : Rn ro (d + 90) M_X8_count 0 [some (.ref 64), some (.int 6)] [] (mk M T) (fun r h => r = some (.int (M 62 4)) ∧ h = mk M T) := by
  refine R_ret 7 (pcr := 100) (v := some (.int (M 62 4))) (h' := mk M T) (fun _ => rfl) ?_
  exact ⟨rfl, rfl⟩
set_option maxRecDepth 100000 in
set_option maxHeartbeats 4000000 in
theorem x_count_7 {ro : xRO} {d : Nat} {M : xM} {T : Nat}  : Rn ro (d + 90) M_X7_count 0 [some (.ref 3), some (.int 7)] [] (mk M T) (fun r h => r = some (.int (M 1 8)) ∧ h = mk M T) := by
  refine R_ret 6 (pcr := 123) (v := some (.int (M 1 8))) (h' := mk M T) (fun _ => rfl) ?_
  exact ⟨rfl, rfl⟩
set_option maxRecDepth 100000 in
set_option maxHeartbeats 4000000 in
theorem m_count_7 {ro : xRO} {d : Nat} {M : xM} {T : Nat}  : Rn ro (d + 90) M_X8_count 0 [some (.ref 64), some (.int 7)] [] (mk M T) (fun r h => r = some (.int (M 62 8)) ∧ h = mk M T) := by
  refine R_ret 7 (pcr := 108) (v := some (.int (M 62 8))) (h' := mk M T) (fun _ => rfl) ?_
  exact ⟨rfl, rfl⟩
set_option maxRecDepth 100000 in
set_option maxHeartbeats 4000000 in
theorem x_count_8 {ro : xRO} {d : Nat} {M : xM} {T : Nat}  : Rn ro (d + 90) M_X7_count 0 [some (.ref 3), some (.int 8)] [] (mk M T) (fun r h => r = some (.int (M 1 9)) ∧ h = mk M T) := by
  refine R_ret 6 (pcr := 131) (v := some (.int (M 1 9))) (h' := mk M T) (fun _ => rfl) ?_
  exact ⟨rfl, rfl⟩
set_option maxRecDepth 100000 in
set_option maxHeartbeats 4000000 in
theorem m_count_8 {ro : xRO} {d : Nat} {M : xM} {T : Nat}  : Rn ro (d + 90) M_X8_count 0 [some (.ref 64), some (.int 8)] [] (mk M T) (fun r h => r = some (.int (M 62 9)) ∧ h = mk M T) := by
  refine R_ret 7 (pcr := 116) (v := some (.int (M 62 9))) (h' := mk M T) (fun _ => rfl) ?_
  exact ⟨rfl, rfl⟩
set_option maxRecDepth 100000 in
set_option maxHeartbeats 4000000 in
theorem x_count_9 {ro : xRO} {d : Nat} {M : xM} {T : Nat}  : Rn ro (d + 90) M_X7_count 0 [some (.ref 3), some (.int 9)] [] (mk M T) (fun r h => r = some (.int (M 49 1)) ∧ h = mk M T) := by
  refine R_ret 6 (pcr := 139) (v := some (.int (M 49 1))) (h' := mk M T) (fun _ => rfl) ?_
  exact ⟨rfl, rfl⟩
set_option maxRecDepth 100000 in
set_option maxHeartbeats 4000000 in
theorem m_count_9 {ro : xRO} {d : Nat} {M : xM} {T : Nat}  : Rn ro (d + 90) M_X8_count 0 [some (.ref 64), some (.int 9)] [] (mk M T) (fun r h => r = some (.int (M 61 22)) ∧ h = mk M T) := by
  refine R_ret 5 (pcr := 121) (v := some (.int (M 61 22))) (h' := mk M T) (fun _ => rfl) ?_
  exact ⟨rfl, rfl⟩
set_option maxRecDepth 100000 in
set_option maxHeartbeats 4000000 in
theorem x_count_10 {ro : xRO} {d : Nat} {M : xM} {T : Nat}  : Rn ro (d + 90) M_X7_count 0 [some (.ref 3), some (.int 10)] [] (mk M T) (fun r h => r = some (.int (M 1 15)) ∧ h = mk M T) := by
  refine R_ret 6 (pcr := 147) (v := some (.int (M 1 15))) (h' := mk M T) (fun _ => rfl) ?_
  exact ⟨rfl, rfl⟩
set_option maxRecDepth 100000 in
set_option maxHeartbeats 4000000 in
theorem m_count_10 {ro : xRO} {d : Nat} {M : xM} {T : Nat}  : Rn ro (d + 90) M_X8_count 0 [some (.ref 64), some (.int 10)] [] (mk M T) (fun r h => r = some (.int (M 62 5)) ∧ h = mk M T) := by
  refine R_ret 7 (pcr := 128) (v := some (.int (M 62 5))) (h' := mk M T) (fun _ => rfl) ?_
  exact ⟨rfl, rfl⟩
set_option maxRecDepth 100000 in
set_option maxHeartbeats 4000000 in
theorem x_count_n {ro : xRO} {d : Nat} {M : xM} {T : Nat} {v : Int32} (hv : ¬ (0 ≤ v ∧ v ≤ 10)) : Rn ro (d + 90) M_X7_count 0 [some (.ref 3), some (.int v)] [] (mk M T) (fun r h => r = some (.int (-1000000001)) ∧ h = mk (up M 60 1 (M 60 1 + 1)) T) := by
  refine R_go 1 (pc' := 1) (L' := [some (.ref 3), some (.int v)]) (st' := [.int v]) (h' := mk M T) (fun _ => rfl) ?_
  refine R_tswd (t := 148) rfl (tsw_out (a := 0) (b := 10) rfl rfl hv) rfl ?_
  refine R_go 2 (pc' := 150) (L' := [some (.ref 3), some (.int v)]) (st' := [.int 1, .ref 3]) (h' := mk M T) (fun _ => rfl) ?_
  refine R_callD (i := .invokevirtual 75) (kd := 0) (y := M_X7_error) (as := [.ref 3, .int 1]) (r := []) (L0 := [some (.ref 3), some (.int 1)]) (v := some (.int (-1000000001))) (h' := mk (up M 60 1 (M 60 1 + 1)) T) (pc' := 153) (st' := [.int (-1000000001)]) rfl rfl rfl rfl rfl rfl (c_error_1) ?_
  refine R_ret 1 (pcr := 153) (v := some (.int (-1000000001))) (h' := mk (up M 60 1 (M 60 1 + 1)) T) (fun _ => rfl) ?_
  exact ⟨rfl, rfl⟩
set_option maxRecDepth 100000 in
set_option maxHeartbeats 4000000 in
theorem m_count_n {ro : xRO} {d : Nat} {M : xM} {T : Nat} {v : Int32} (hv : ¬ (0 ≤ v ∧ v ≤ 10)) : Rn ro (d + 90) M_X8_count 0 [some (.ref 64), some (.int v)] [] (mk M T) (fun r h => r = some (.int (-1000000001)) ∧ h = mk (up M 64 1 (M 64 1 + 1)) T) := by
  refine R_go 1 (pc' := 1) (L' := [some (.ref 64), some (.int v)]) (st' := [.int v]) (h' := mk M T) (fun _ => rfl) ?_
  refine R_tswd (t := 129) rfl (tsw_out (a := 0) (b := 10) rfl rfl hv) rfl ?_
  refine R_go 2 (pc' := 132) (L' := [some (.ref 64), some (.int v)]) (st' := [.int (-1000000001), .ref 64]) (h' := mk M T) (fun _ => rfl) ?_
  refine R_callD (i := .invokevirtual 81) (kd := 0) (y := M_X8_error) (as := [.ref 64, .int (-1000000001)]) (r := []) (L0 := [some (.ref 64), some (.int (-1000000001))]) (v := some (.int (-1000000001))) (h' := mk (up M 64 1 (M 64 1 + 1)) T) (pc' := 135) (st' := [.int (-1000000001)]) rfl rfl rfl rfl rfl rfl (m_error_1) ?_
  refine R_ret 1 (pcr := 135) (v := some (.int (-1000000001))) (h' := mk (up M 64 1 (M 64 1 + 1)) T) (fun _ => rfl) ?_
  exact ⟨rfl, rfl⟩
set_option maxHeartbeats 4000000 in
theorem op_count {ro : xRO} {M : xM} {T : Nat} (h : Rel M) {v : Int32} : OpOK ro M_X7_count M_X8_count [some (.ref 3), some (.int v)] [some (.ref 64), some (.int v)] M T := by
  obtain ⟨P, H, h8, h6, pm, hm, px, hx, a, b1, b2, b3, b4, c2, c3, c4, c5⟩ := rel_all h
  rcases of_in v (b := 10) (by omega) with ⟨n, hn, rfl⟩ | hv
  · match n, hn with
    | 0, _ => exact OpOK.of (fun d => x_count_0) (fun d => m_count_0) (by grind) h
    | 1, _ => exact OpOK.of (fun d => x_count_1) (fun d => m_count_1) (by grind) h
    | 2, _ => exact OpOK.of (fun d => x_count_2) (fun d => m_count_2) (by grind) h
    | 3, _ => exact OpOK.of (fun d => x_count_3) (fun d => m_count_3) (by grind) h
    | 4, _ => exact OpOK.of (fun d => x_count_4) (fun d => m_count_4) (by grind) h
    | 5, _ => exact OpOK.of (fun d => x_count_5) (fun d => m_count_5) (by grind) h
    | 6, _ => exact OpOK.of (fun d => x_count_6) (fun d => m_count_6) (by grind) h
    | 7, _ => exact OpOK.of (fun d => x_count_7) (fun d => m_count_7) (by grind) h
    | 8, _ => exact OpOK.of (fun d => x_count_8) (fun d => m_count_8) (by grind) h
    | 9, _ => exact OpOK.of (fun d => x_count_9) (fun d => m_count_9) h.2.2.2.2.1.1.symm h
    | 10, _ => exact OpOK.of (fun d => x_count_10) (fun d => m_count_10) (by grind) h
  · exact OpOK.of (fun d => x_count_n hv) (fun d => m_count_n (M := up M 60 1 (M 60 1 + 1)) hv) rfl (h.err 1 (by omega))
