/-! OPERATION reading -/
theorem f_errk {M M1 M2 : xM} {k : Nat} (hk : 1 ≤ k ∧ k ≤ 6) (h : Rel M) (h1 : f42 M M1) (h2 : f72 (up M1 60 k (M1 60 k + 1)) M2) : Rel (up M2 64 k (M2 64 k + 1)) := by
  have r1 : Rel M1 := FS_rel h (fun c hc => h1 c (by unfold sIr at hc; omega))
  have r2 := r1.err k hk
  refine FS_rel r2 (fun c hc => ?_)
  funext j
  rw [up_rd, up_rd]
  by_cases q : c = 64 ∧ j = k
  · rw [if_pos q, if_pos q, h2 64 (by omega)]
  · rw [if_neg q, if_neg q, h2 c (by unfold sIr at hc; omega)]
set_option maxRecDepth 100000 in
set_option maxHeartbeats 4000000 in
theorem x_reading_o {ro : xRO} {d : Nat} {M : xM} {T : Nat} {i : Int32} (hi : ¬ (0 ≤ i ∧ i < 4)) : Rn ro (d + 90) M_X7_reading 0 [some (.ref 3), some (.int i), none] [] (mk M T) (fun r h => r = some (.int (-1000000001)) ∧ h = mk (up M 60 1 (M 60 1 + 1)) T) := by
  refine R_go 2 (pc' := 2) (L' := [some (.ref 3), some (.int i), none]) (st' := [.int i, .ref 3]) (h' := mk M T) (fun _ => rfl) ?_
  refine R_callD (i := .invokevirtual 180) (kd := 0) (y := M_X7_sheetAt) (as := [.ref 3, .int i]) (r := []) (L0 := [some (.ref 3), some (.int i)]) (v := some (.null)) (h' := mk M T) (pc' := 5) (st' := [.null]) rfl rfl rfl rfl rfl rfl (c_sheetAt_out hi) ?_
  refine R_go 5 (pc' := 12) (L' := [some (.ref 3), some (.int i), some (.null)]) (st' := [.int 1, .ref 3]) (h' := mk M T) (fun _ => rfl) ?_
  refine R_callD (i := .invokevirtual 75) (kd := 0) (y := M_X7_error) (as := [.ref 3, .int 1]) (r := []) (L0 := [some (.ref 3), some (.int 1)]) (v := some (.int (-1000000001))) (h' := mk (up M 60 1 (M 60 1 + 1)) T) (pc' := 15) (st' := [.int (-1000000001)]) rfl rfl rfl rfl rfl rfl (c_error_1) ?_
  refine R_ret 1 (pcr := 15) (v := some (.int (-1000000001))) (h' := mk (up M 60 1 (M 60 1 + 1)) T) (fun _ => rfl) ?_
  exact ⟨rfl, rfl⟩
set_option maxRecDepth 100000 in
set_option maxHeartbeats 4000000 in
theorem m_reading_o {ro : xRO} {d : Nat} {M : xM} {T : Nat} {i : Int32} (hi : ¬ (0 ≤ i ∧ i < 4)) : Rn ro (d + 90) M_X8_reading 0 [some (.ref 64), some (.int i)] [] (mk M T) (fun r h => r = some (.int (-1000000001)) ∧ h = mk (up M 64 1 (M 64 1 + 1)) T) := by
  refine R_go 1 (pc' := 1) (L' := [some (.ref 64), some (.int i)]) (st' := [.int i]) (h' := mk M T) (fun _ => rfl) ?_
  refine R_call2 (i := .invokestatic 168) (kd := 1) (y := M_X8_isSheet) (as := [.int i]) (r := []) (L0 := [some (.int i)]) (v1 := some (.int 1)) (v2 := some (.int 0)) (h1' := mk M T) (h2' := mk M T) (pc' := 4) (st1 := [.int 1]) (st2 := [.int 0]) rfl rfl rfl rfl rfl rfl (m_isSheet) (fun g1 => ?_) (fun g1 => ?_)
  · exact absurd g1 (sh_out hi)
  · refine R_go 3 (pc' := 10) (L' := [some (.ref 64), some (.int i)]) (st' := [.int (-1000000001), .ref 64]) (h' := mk M T) (fun _ => rfl) ?_
    refine R_callD (i := .invokevirtual 81) (kd := 0) (y := M_X8_error) (as := [.ref 64, .int (-1000000001)]) (r := []) (L0 := [some (.ref 64), some (.int (-1000000001))]) (v := some (.int (-1000000001))) (h' := mk (up M 64 1 (M 64 1 + 1)) T) (pc' := 13) (st' := [.int (-1000000001)]) rfl rfl rfl rfl rfl rfl (m_error_1) ?_
    refine R_ret 1 (pcr := 13) (v := some (.int (-1000000001))) (h' := mk (up M 64 1 (M 64 1 + 1)) T) (fun _ => rfl) ?_
    exact ⟨rfl, rfl⟩
set_option maxRecDepth 100000 in
set_option maxHeartbeats 4000000 in
theorem x_reading_no {ro : xRO} {d : Nat} {M : xM} {T : Nat} {e : Nat} (he : e < 4) {b z : Nat} (hb : M (52 + 2 * e) 1 = nI b) (b32 : b ≤ 32) (hz : M (52 + 2 * e) 2 = nI z) (z24 : z ≤ 24) {P : Nat} (hP : M 1 6 = nI P) (h8 : P ≤ 8) {cs : Nat → Int32} (hq : ∀ i v, i < 24 → v < 100 → (M (53 + 2 * e) i = nI v ↔ cs i = nI v)) (no : b = 0 ∨ ¬ z = P ∨ lst (trF cs P) 0 P < P) : Rn ro (d + 90) M_X7_reading 0 [some (.ref 3), some (.int (nI e)), none] [] (mk M T) (fun rr h => ∃ M', (f42 M M') ∧ rr = some (.int (-1000000002)) ∧ h = mk (up M' 60 2 (M' 60 2 + 1)) T) := by
  refine R_go 2 (pc' := 2) (L' := [some (.ref 3), some (.int (nI e)), none]) (st' := [.int (nI e), .ref 3]) (h' := mk M T) (fun _ => rfl) ?_
  refine R_callD (i := .invokevirtual 180) (kd := 0) (y := M_X7_sheetAt) (as := [.ref 3, .int (nI e)]) (r := []) (L0 := [some (.ref 3), some (.int (nI e))]) (v := some (.ref (52 + 2 * e + 3))) (h' := mk M T) (pc' := 5) (st' := [.ref (52 + 2 * e + 3)]) rfl rfl rfl rfl rfl rfl (c_sheetAt_in (n := e) (by omega)) ?_
  refine R_go 9 (pc' := 28) (L' := [some (.ref 3), some (.int (nI e)), some (.ref (52 + 2 * e + 3))]) (st' := [.int (M 1 6), .ref (52 + 2 * e + 3), .ref 42]) (h' := mk M T) (fun _ => rfl) ?_
  refine R_top (y := nI P) (hP) ?_
  refine R_callE (i := .invokevirtual 184) (kd := 0) (y := M_X3_takeOrder) (as := [.ref 42, .ref (52 + 2 * e + 3), .int (nI P)]) (r := []) (L0 := [some (.ref 42), some (.ref (52 + 2 * e + 3)), some (.int (nI P)), none, none, none]) (v := fun M1 => some (.int 0)) (h' := fun M1 => mk M1 T) (pc' := 31) (st' := fun M1 => [.int 0]) rfl rfl rfl rfl rfl rfl (c_takeOrder_no he hb b32 hz z24 h8 hq no) (fun M1 x1 => ?_)
  have xr := x1
  refine R_go 3 (pc' := 36) (L' := [some (.ref 3), some (.int (nI e)), some (.ref (52 + 2 * e + 3))]) (st' := [.int 2, .ref 3]) (h' := mk M1 T) (fun _ => rfl) ?_
  refine R_callD (i := .invokevirtual 75) (kd := 0) (y := M_X7_error) (as := [.ref 3, .int 2]) (r := []) (L0 := [some (.ref 3), some (.int 2)]) (v := some (.int (-1000000002))) (h' := mk (up M1 60 2 (M1 60 2 + 1)) T) (pc' := 39) (st' := [.int (-1000000002)]) rfl rfl rfl rfl rfl rfl (c_error_2) ?_
  refine R_ret 1 (pcr := 39) (v := some (.int (-1000000002))) (h' := mk (up M1 60 2 (M1 60 2 + 1)) T) (fun _ => rfl) ?_
  exact ⟨M1, xr, rfl, rfl⟩
set_option maxRecDepth 100000 in
set_option maxHeartbeats 4000000 in
theorem m_reading_no {ro : xRO} {d : Nat} {M : xM} {T : Nat} {e : Nat} (he : e < 4) {b z : Nat} (hb : M 65 e = nI b) (b32 : b ≤ 32) (hz : M 66 e = nI z) (z24 : z ≤ 24) {P : Nat} (hP : M 62 6 = nI P) (h8 : P ≤ 8) {cs : Nat → Int32} (hq : ∀ i, i < 24 → M 67 (24 * e + i) = cs i) (no : b = 0 ∨ ¬ z = P ∨ lst (trF cs P) 0 P < P) : Rn ro (d + 90) M_X8_reading 0 [some (.ref 64), some (.int (nI e))] [] (mk M T) (fun rr h => ∃ M', (f72 M M') ∧ rr = some (.int (-1000000002)) ∧ h = mk (up M' 64 2 (M' 64 2 + 1)) T) := by
  refine R_go 1 (pc' := 1) (L' := [some (.ref 64), some (.int (nI e))]) (st' := [.int (nI e)]) (h' := mk M T) (fun _ => rfl) ?_
  refine R_call2 (i := .invokestatic 168) (kd := 1) (y := M_X8_isSheet) (as := [.int (nI e)]) (r := []) (L0 := [some (.int (nI e))]) (v1 := some (.int 1)) (v2 := some (.int 0)) (h1' := mk M T) (h2' := mk M T) (pc' := 4) (st1 := [.int 1]) (st2 := [.int 0]) rfl rfl rfl rfl rfl rfl (m_isSheet) (fun x1 => ?_) (fun x1 => ?_)
  · refine R_go 3 (pc' := 16) (L' := [some (.ref 64), some (.int (nI e))]) (st' := [.int (nI e), .ref 64]) (h' := mk M T) (fun _ => rfl) ?_
    refine R_callE (i := .invokevirtual 171) (kd := 0) (y := M_X8_isRound) (as := [.ref 64, .int (nI e)]) (r := []) (L0 := [some (.ref 64), some (.int (nI e)), none, none, none]) (v := fun M1 => some (.int 0)) (h' := fun M1 => mk M1 T) (pc' := 19) (st' := fun M1 => [.int 0]) rfl rfl rfl rfl rfl rfl (m_isRound_no he hb b32 hz z24 hP h8 hq no) (fun M1 x2 => ?_)
    have xr := x2
    refine R_go 3 (pc' := 25) (L' := [some (.ref 64), some (.int (nI e))]) (st' := [.int (-1000000002), .ref 64]) (h' := mk M1 T) (fun _ => rfl) ?_
    refine R_callD (i := .invokevirtual 81) (kd := 0) (y := M_X8_error) (as := [.ref 64, .int (-1000000002)]) (r := []) (L0 := [some (.ref 64), some (.int (-1000000002))]) (v := some (.int (-1000000002))) (h' := mk (up M1 64 2 (M1 64 2 + 1)) T) (pc' := 28) (st' := [.int (-1000000002)]) rfl rfl rfl rfl rfl rfl (m_error_2) ?_
    refine R_ret 1 (pcr := 28) (v := some (.int (-1000000002))) (h' := mk (up M1 64 2 (M1 64 2 + 1)) T) (fun _ => rfl) ?_
    exact ⟨M1, xr, rfl, rfl⟩
  · exact absurd (nI_in2 (a := 0) (b := 3) (by omega) (by omega) (by omega)) x1
set_option maxRecDepth 100000 in
set_option maxHeartbeats 4000000 in
theorem x_reading_full {ro : xRO} {d : Nat} {M : xM} {T : Nat} {e : Nat} (he : e < 4) {b z : Nat} (hb : M (52 + 2 * e) 1 = nI b) (b32 : b ≤ 32) (hz : M (52 + 2 * e) 2 = nI z) (z24 : z ≤ 24) {P : Nat} (hP : M 1 6 = nI P) (h8 : P ≤ 8) {cs : Nat → Int32} (hq : ∀ i v, i < 24 → v < 100 → (M (53 + 2 * e) i = nI v ↔ cs i = nI v)) (b0 : ¬ b = 0) (zP : z = P) (hL : lst (trF cs P) 0 P = P) (hnt : M 1 14 = nI 9999) : Rn ro (d + 90) M_X7_reading 0 [some (.ref 3), some (.int (nI e)), none] [] (mk M T) (fun rr h => ∃ M', (f42 M M') ∧ rr = some (.int (-1000000003)) ∧ h = mk (up M' 60 3 (M' 60 3 + 1)) T) := by
  refine R_go 2 (pc' := 2) (L' := [some (.ref 3), some (.int (nI e)), none]) (st' := [.int (nI e), .ref 3]) (h' := mk M T) (fun _ => rfl) ?_
  refine R_callD (i := .invokevirtual 180) (kd := 0) (y := M_X7_sheetAt) (as := [.ref 3, .int (nI e)]) (r := []) (L0 := [some (.ref 3), some (.int (nI e))]) (v := some (.ref (52 + 2 * e + 3))) (h' := mk M T) (pc' := 5) (st' := [.ref (52 + 2 * e + 3)]) rfl rfl rfl rfl rfl rfl (c_sheetAt_in (n := e) (by omega)) ?_
  refine R_go 9 (pc' := 28) (L' := [some (.ref 3), some (.int (nI e)), some (.ref (52 + 2 * e + 3))]) (st' := [.int (M 1 6), .ref (52 + 2 * e + 3), .ref 42]) (h' := mk M T) (fun _ => rfl) ?_
  refine R_top (y := nI P) (hP) ?_
  refine R_callE (i := .invokevirtual 184) (kd := 0) (y := M_X3_takeOrder) (as := [.ref 42, .ref (52 + 2 * e + 3), .int (nI P)]) (r := []) (L0 := [some (.ref 42), some (.ref (52 + 2 * e + 3)), some (.int (nI P)), none, none, none]) (v := fun M1 => some (.int 1)) (h' := fun M1 => mk M1 T) (pc' := 31) (st' := fun M1 => [.int 1]) rfl rfl rfl rfl rfl rfl (c_takeOrder_T he hb b32 hz z24 h8 hq b0 zP hL) (fun M1 x1 => ?_)
  have xr := x1
  refine R_go 4 (pc' := 47) (L' := [some (.ref 3), some (.int (nI e)), some (.ref (52 + 2 * e + 3))]) (st' := [.int (M1 1 14)]) (h' := mk M1 T) (fun _ => rfl) ?_
  refine R_top (y := 9999) ((congrFun (xr.1 1 (by omega)) 14).trans hnt) ?_
  refine R_go 4 (pc' := 55) (L' := [some (.ref 3), some (.int (nI e)), some (.ref (52 + 2 * e + 3))]) (st' := [.int 3, .ref 3]) (h' := mk M1 T) (fun _ => rfl) ?_
  refine R_callD (i := .invokevirtual 75) (kd := 0) (y := M_X7_error) (as := [.ref 3, .int 3]) (r := []) (L0 := [some (.ref 3), some (.int 3)]) (v := some (.int (-1000000003))) (h' := mk (up M1 60 3 (M1 60 3 + 1)) T) (pc' := 58) (st' := [.int (-1000000003)]) rfl rfl rfl rfl rfl rfl (c_error_3) ?_
  refine R_ret 1 (pcr := 58) (v := some (.int (-1000000003))) (h' := mk (up M1 60 3 (M1 60 3 + 1)) T) (fun _ => rfl) ?_
  exact ⟨M1, xr.1, rfl, rfl⟩
set_option maxRecDepth 100000 in
set_option maxHeartbeats 4000000 in
theorem m_reading_full {ro : xRO} {d : Nat} {M : xM} {T : Nat} {e : Nat} (he : e < 4) {b z : Nat} (hb : M 65 e = nI b) (b32 : b ≤ 32) (hz : M 66 e = nI z) (z24 : z ≤ 24) {P : Nat} (hP : M 62 6 = nI P) (h8 : P ≤ 8) {cs : Nat → Int32} (hq : ∀ i, i < 24 → M 67 (24 * e + i) = cs i) (b0 : ¬ b = 0) (zP : z = P) (hL : lst (trF cs P) 0 P = P) (hnt : M 62 3 = nI 9999) : Rn ro (d + 90) M_X8_reading 0 [some (.ref 64), some (.int (nI e))] [] (mk M T) (fun rr h => ∃ M', (f72 M M') ∧ rr = some (.int (-1000000003)) ∧ h = mk (up M' 64 3 (M' 64 3 + 1)) T) := by
  refine R_go 1 (pc' := 1) (L' := [some (.ref 64), some (.int (nI e))]) (st' := [.int (nI e)]) (h' := mk M T) (fun _ => rfl) ?_
  refine R_call2 (i := .invokestatic 168) (kd := 1) (y := M_X8_isSheet) (as := [.int (nI e)]) (r := []) (L0 := [some (.int (nI e))]) (v1 := some (.int 1)) (v2 := some (.int 0)) (h1' := mk M T) (h2' := mk M T) (pc' := 4) (st1 := [.int 1]) (st2 := [.int 0]) rfl rfl rfl rfl rfl rfl (m_isSheet) (fun x1 => ?_) (fun x1 => ?_)
  · refine R_go 3 (pc' := 16) (L' := [some (.ref 64), some (.int (nI e))]) (st' := [.int (nI e), .ref 64]) (h' := mk M T) (fun _ => rfl) ?_
    refine R_callE (i := .invokevirtual 171) (kd := 0) (y := M_X8_isRound) (as := [.ref 64, .int (nI e)]) (r := []) (L0 := [some (.ref 64), some (.int (nI e)), none, none, none]) (v := fun M1 => some (.int 1)) (h' := fun M1 => mk M1 T) (pc' := 19) (st' := fun M1 => [.int 1]) rfl rfl rfl rfl rfl rfl (m_isRound_T he hb b32 hz z24 hP h8 hq b0 zP hL) (fun M1 x2 => ?_)
    have xr := x2
    refine R_go 5 (pc' := 35) (L' := [some (.ref 64), some (.int (nI e))]) (st' := [.int (M1 62 3)]) (h' := mk M1 T) (fun _ => rfl) ?_
    refine R_top (y := 9999) ((congrFun (xr.1 62 (by omega)) 3).trans hnt) ?_
    refine R_go 4 (pc' := 44) (L' := [some (.ref 64), some (.int (nI e))]) (st' := [.int (-1000000003), .ref 64]) (h' := mk M1 T) (fun _ => rfl) ?_
    refine R_callD (i := .invokevirtual 81) (kd := 0) (y := M_X8_error) (as := [.ref 64, .int (-1000000003)]) (r := []) (L0 := [some (.ref 64), some (.int (-1000000003))]) (v := some (.int (-1000000003))) (h' := mk (up M1 64 3 (M1 64 3 + 1)) T) (pc' := 47) (st' := [.int (-1000000003)]) rfl rfl rfl rfl rfl rfl (m_error_3) ?_
    refine R_ret 2 (pcr := 54) (v := some (.int (-1000000003))) (h' := mk (up M1 64 3 (M1 64 3 + 1)) T) (fun _ => rfl) ?_
    exact ⟨M1, xr.1, rfl, rfl⟩
  · exact absurd (nI_in2 (a := 0) (b := 3) (by omega) (by omega) (by omega)) x1
set_option maxRecDepth 100000 in
set_option maxHeartbeats 4000000 in
theorem x_reading_T {ro : xRO} {d : Nat} {M : xM} {T : Nat} {e : Nat} (he : e < 4) {b z : Nat} (hb : M (52 + 2 * e) 1 = nI b) (b32 : b ≤ 32) (hz : M (52 + 2 * e) 2 = nI z) (z24 : z ≤ 24) {P : Nat} (hP : M 1 6 = nI P) (h8 : P ≤ 8) {cs : Nat → Int32} (hq : ∀ i v, i < 24 → v < 100 → (M (53 + 2 * e) i = nI v ↔ cs i = nI v)) (b0 : ¬ b = 0) (zP : z = P) (hL : lst (trF cs P) 0 P = P) (h0 : Rel M) (pm : M 62 6 = nI P) (ho : ∀ i, i < P → ordF cs i < P) (hsu : ∀ j, j < P → ∃ i, i < P ∧ ordF cs i = j) {nt : Nat} (n9 : nt < 9999) (hnt : M 1 14 = nI nt) : Rn ro (d + 90) M_X7_reading 0 [some (.ref 3), some (.int (nI e)), none] [] (mk M T) (fun rr h => ∃ M', ((∀ c, ¬ sIr c → c ≠ 1 → c ≠ 11 → M' c = M c) ∧ (∀ j, j ≠ 10 → j ≠ 14 → M' 1 j = M 1 j) ∧ (∀ j, j < 6 → M' 11 j = nI (puT M (wkV M 0 (ordF cs) P) P j)) ∧ M' 1 10 = nI (chT M (wkV M 0 (ordF cs) P) P) ∧ M' 1 14 = nI (nt + 1)) ∧ rr = some (.int (nI (rsum M 0 (ordF cs) P))) ∧ h = mk M' T) := by
  refine R_go 2 (pc' := 2) (L' := [some (.ref 3), some (.int (nI e)), none]) (st' := [.int (nI e), .ref 3]) (h' := mk M T) (fun _ => rfl) ?_
  refine R_callD (i := .invokevirtual 180) (kd := 0) (y := M_X7_sheetAt) (as := [.ref 3, .int (nI e)]) (r := []) (L0 := [some (.ref 3), some (.int (nI e))]) (v := some (.ref (52 + 2 * e + 3))) (h' := mk M T) (pc' := 5) (st' := [.ref (52 + 2 * e + 3)]) rfl rfl rfl rfl rfl rfl (c_sheetAt_in (n := e) (by omega)) ?_
  refine R_go 9 (pc' := 28) (L' := [some (.ref 3), some (.int (nI e)), some (.ref (52 + 2 * e + 3))]) (st' := [.int (M 1 6), .ref (52 + 2 * e + 3), .ref 42]) (h' := mk M T) (fun _ => rfl) ?_
  refine R_top (y := nI P) (hP) ?_
  refine R_callE (i := .invokevirtual 184) (kd := 0) (y := M_X3_takeOrder) (as := [.ref 42, .ref (52 + 2 * e + 3), .int (nI P)]) (r := []) (L0 := [some (.ref 42), some (.ref (52 + 2 * e + 3)), some (.int (nI P)), none, none, none]) (v := fun M1 => some (.int 1)) (h' := fun M1 => mk M1 T) (pc' := 31) (st' := fun M1 => [.int 1]) rfl rfl rfl rfl rfl rfl (c_takeOrder_T he hb b32 hz z24 h8 hq b0 zP hL) (fun M1 x1 => ?_)
  have xr := x1
  refine R_go 4 (pc' := 47) (L' := [some (.ref 3), some (.int (nI e)), some (.ref (52 + 2 * e + 3))]) (st' := [.int (M1 1 14)]) (h' := mk M1 T) (fun _ => rfl) ?_
  refine R_top (y := nI nt) ((congrFun (xr.1 1 (by omega)) 14).trans hnt) ?_
  refine R_if 2 (c := (nI nt) < 9999) (t := 59) (f := 53) (L' := [some (.ref 3), some (.int (nI e)), some (.ref (52 + 2 * e + 3))]) (st' := []) (h' := mk M1 T) (fun _ => rfl) (fun x2 => ?_) (fun x2 => ?_)
  · replace x2 : nt < 9999 := (nI_ltI (a := nt) (b := 9999) (by omega) (by omega)).mp x2
    refine R_go 2 (pc' := 63) (L' := [some (.ref 3), some (.int (nI e)), some (.ref (52 + 2 * e + 3))]) (st' := [.ref 42]) (h' := mk M1 T) (fun _ => rfl) ?_
    refine R_callE (i := .invokevirtual 195) (kd := 0) (y := M_X3_forget) (as := [.ref 42]) (r := []) (L0 := [some (.ref 42)]) (v := fun M2 => none) (h' := fun M2 => mk M2 T) (pc' := 66) (st' := fun M2 => []) rfl rfl rfl rfl rfl rfl (c_forget (M0 := M)) (fun M2 x3 => ?_)
    obtain ⟨fo1, me1⟩ := x3
    refine R_go 4 (pc' := 74) (L' := [some (.ref 3), some (.int (nI e)), some (.ref (52 + 2 * e + 3))]) (st' := [.ref 4, .ref 42]) (h' := mk M2 T) (fun _ => rfl) ?_
    refine R_callE (i := .invokevirtual 198) (kd := 0) (y := M_X3_readTo) (as := [.ref 42, .ref 4]) (r := []) (L0 := [some (.ref 42), some (.ref 4), none, none, none, none]) (v := fun M3 => some (.int (nI (rsum M 0 (ordF cs) P)))) (h' := fun M3 => mk M3 T) (pc' := 77) (st' := fun M3 => [.int (nI (rsum M 0 (ordF cs) P))]) rfl rfl rfl rfl rfl rfl (c_readTo (M0 := M) (ord := ordF cs) h0 (FC_fo (FC_42 FC_refl xr.1) fo1) pm h8 ho (fun i hi => by rw [fo1 42 (by omega) (by omega)]; exact xr.2 i hi) me1 hsu (fun j hj => by rw [fo1 11 (by omega) (by omega), xr.1 11 (by omega)]; exact h0.1.1.2.2.1 j hj) (by rw [fo1 1 (by omega) (by omega), xr.1 1 (by omega)]; exact h0.1.1.1.2.2.2.2.1) (nt := nt) (by rw [fo1 1 (by omega) (by omega), xr.1 1 (by omega)]; exact hnt)) (fun M3 x4 => ?_)
    have xw := x4
    refine R_ret 1 (pcr := 77) (v := some (.int (nI (rsum M 0 (ordF cs) P)))) (h' := mk M3 T) (fun _ => rfl) ?_
    obtain ⟨y1, y2, y3, y4, y5, y6, y7⟩ := xw
    exact ⟨M3, ⟨fun c hc a1 a2 => by unfold sIr at hc; exact (y3 c a1 a2 (by omega) (by omega) (by omega) (by omega) (by omega)).trans ((fo1 c (by omega) (by omega)).trans (xr.1 c (by omega))), fun j a b => (y4 j a b).trans (by rw [fo1 1 (by omega) (by omega), xr.1 1 (by omega)]), y5, y6, y7⟩, rfl, rfl⟩
  · replace x2 : ¬ nt < 9999 := fun q => x2 ((nI_ltI (a := nt) (b := 9999) (by omega) (by omega)).mpr q)
    omega
set_option maxRecDepth 100000 in
set_option maxHeartbeats 4000000 in
theorem m_reading_T {ro : xRO} {d : Nat} {M : xM} {T : Nat} {e : Nat} (he : e < 4) {b z : Nat} (hb : M 65 e = nI b) (b32 : b ≤ 32) (hz : M 66 e = nI z) (z24 : z ≤ 24) {P : Nat} (hP : M 62 6 = nI P) (h8 : P ≤ 8) {cs : Nat → Int32} (hq : ∀ i, i < 24 → M 67 (24 * e + i) = cs i) (b0 : ¬ b = 0) (zP : z = P) (hL : lst (trF cs P) 0 P = P) {M0 : xM} (h0 : Rel M0) (hf : FM M0 M) (pm : M0 62 6 = nI P) (ho : ∀ i, i < P → ordF cs i < P) (hsu : ∀ j, j < P → ∃ i, i < P ∧ ordF cs i = j) {nt : Nat} (n9 : nt < 9999) (hB : M 61 7 = 0) (hpu : ∀ j, j < 6 → M 62 (66 + j) = M0 62 (66 + j)) (hch : M 62 4 = M0 62 4) (hnt : M 62 3 = nI nt) : Rn ro (d + 90) M_X8_reading 0 [some (.ref 64), some (.int (nI e))] [] (mk M T) (fun rr h => ∃ M', ((∀ c, ¬ sIr c → c ≠ 62 → M' c = M c) ∧ (∀ j, j ≠ 3 → j ≠ 4 → ¬ (66 ≤ j ∧ j ≤ 71) → M' 62 j = M 62 j) ∧ (∀ j, j < 6 → M' 62 (66 + j) = nI (puT M0 (wkV M0 0 (ordF cs) P) P j)) ∧ M' 62 4 = nI (chT M0 (wkV M0 0 (ordF cs) P) P) ∧ M' 62 3 = nI (nt + 1)) ∧ rr = some (.int (nI (rsum M0 0 (ordF cs) P))) ∧ h = mk M' T) := by
  refine R_go 1 (pc' := 1) (L' := [some (.ref 64), some (.int (nI e))]) (st' := [.int (nI e)]) (h' := mk M T) (fun _ => rfl) ?_
  refine R_call2 (i := .invokestatic 168) (kd := 1) (y := M_X8_isSheet) (as := [.int (nI e)]) (r := []) (L0 := [some (.int (nI e))]) (v1 := some (.int 1)) (v2 := some (.int 0)) (h1' := mk M T) (h2' := mk M T) (pc' := 4) (st1 := [.int 1]) (st2 := [.int 0]) rfl rfl rfl rfl rfl rfl (m_isSheet) (fun x1 => ?_) (fun x1 => ?_)
  · refine R_go 3 (pc' := 16) (L' := [some (.ref 64), some (.int (nI e))]) (st' := [.int (nI e), .ref 64]) (h' := mk M T) (fun _ => rfl) ?_
    refine R_callE (i := .invokevirtual 171) (kd := 0) (y := M_X8_isRound) (as := [.ref 64, .int (nI e)]) (r := []) (L0 := [some (.ref 64), some (.int (nI e)), none, none, none]) (v := fun M1 => some (.int 1)) (h' := fun M1 => mk M1 T) (pc' := 19) (st' := fun M1 => [.int 1]) rfl rfl rfl rfl rfl rfl (m_isRound_T he hb b32 hz z24 hP h8 hq b0 zP hL) (fun M1 x2 => ?_)
    have xr := x2
    refine R_go 5 (pc' := 35) (L' := [some (.ref 64), some (.int (nI e))]) (st' := [.int (M1 62 3)]) (h' := mk M1 T) (fun _ => rfl) ?_
    refine R_top (y := nI nt) ((congrFun (xr.1 62 (by omega)) 3).trans hnt) ?_
    refine R_ifn 2 (c := (nI nt) = 9999) (t := 50) (f := 41) (L' := [some (.ref 64), some (.int (nI e))]) (st' := []) (h' := mk M1 T) (fun _ => rfl) (fun x3 => ?_) (fun x3 => ?_)
    · replace x3 : ¬ nt = 9999 := fun q => x3 ((nI_eq (a := nt) (b := 9999) (by omega) (by omega)).mpr q)
      refine R_go 1 (pc' := 51) (L' := [some (.ref 64), some (.int (nI e))]) (st' := [.ref 64]) (h' := mk M1 T) (fun _ => rfl) ?_
      refine R_callE (i := .invokevirtual 180) (kd := 0) (y := M_X8_reads) (as := [.ref 64]) (r := []) (L0 := [some (.ref 64), none, none, none, none]) (v := fun M3 => some (.int (nI (rsum M0 0 (ordF cs) P)))) (h' := fun M3 => mk M3 T) (pc' := 54) (st' := fun M3 => [.int (nI (rsum M0 0 (ordF cs) P))]) rfl rfl rfl rfl rfl rfl (m_reads (ord := ordF cs) h0 (FM_72 hf xr.1) pm h8 ho xr.2 ((congrFun (xr.1 61 (by omega)) 7).trans hB) hsu (fun j hj => by rw [xr.1 62 (by omega)]; exact hpu j hj) (by rw [xr.1 62 (by omega)]; exact hch) (nt := nt) (by rw [xr.1 62 (by omega)]; exact hnt)) (fun M3 x4 => ?_)
      have xw := x4
      refine R_ret 1 (pcr := 54) (v := some (.int (nI (rsum M0 0 (ordF cs) P)))) (h' := mk M3 T) (fun _ => rfl) ?_
      obtain ⟨y1, y3, y4, y5, y6, y7⟩ := xw
      exact ⟨M3, ⟨fun c hc a1 => by unfold sIr at hc; exact (y3 c a1 (by omega) (by omega) (by omega)).trans (xr.1 c (by omega)), fun j a b c => (y4 j a b c).trans (by rw [xr.1 62 (by omega)]), y5, y6, y7⟩, rfl, rfl⟩
    · replace x3 : nt = 9999 := (nI_eq (a := nt) (b := 9999) (by omega) (by omega)).mp x3
      omega
  · exact absurd (nI_in2 (a := 0) (b := 3) (by omega) (by omega) (by omega)) x1
set_option maxHeartbeats 4000000 in
theorem op_reading {ro : xRO} {M : xM} {T : Nat} (h : Rel M) {i : Int32} : OpOK ro M_X7_reading M_X8_reading [some (.ref 3), some (.int i), none] [some (.ref 64), some (.int i)] M T := by
  obtain ⟨P, H, h8, h6, pm, hm, px, hx, a, b1, b2, b3, b4, c2, c3, c4, c5⟩ := rel_all h
  rcases nI_cases i 4 (by omega) with ⟨e, he, rfl⟩ | hi
  · obtain ⟨b, z, bx, bm, b5, zx, zm, z24, bz, nr⟩ := rel_sh h he
    have b32 : b ≤ 32 := by omega
    obtain ⟨nt, nt9, hnt⟩ := c2.2.2.2.2.2.1
    have hntx : M 1 14 = nI nt := a.2.2.2.2.2.2.1.trans hnt
    by_cases good : ¬ b = 0 ∧ z = P ∧ lst (trF (fun i => M 67 (24 * e + i)) P) 0 P = P
    · obtain ⟨b0, zP, hL⟩ := good
      have hq : ∀ i v, i < 24 → v < 100 → (M (53 + 2 * e) i = nI v ↔ M 67 (24 * e + i) = nI v) := fun i v hi hv => numR_v (nr i hi) (by omega) hv
      have ho := ho_of h8 hL
      have hsu := su_of h8 hL
      by_cases n9 : nt = 9999
      · subst n9
        refine OpOK.ofE (A := fun v M1 => (∃ M3, f42 M M3 ∧ M1 = up M3 60 3 (M3 60 3 + 1)) ∧ v = -1000000003) ?_ ?_
        · refine (x_reading_full he bx b32 zx z24 px h8 (cs := fun i => M 67 (24 * e + i)) hq b0 zP hL hntx).imp (fun _ _ q => ?_)
          obtain ⟨M', q1, q2, q3⟩ := q
          exact ⟨(_, up M' 60 3 (M' 60 3 + 1)), ⟨⟨M', q1, rfl⟩, rfl⟩, q2, q3⟩
        · intro v M1 hA
          obtain ⟨⟨M3, f1, rfl⟩, rfl⟩ := hA
          refine (m_reading_full (M := up M3 60 3 (M3 60 3 + 1)) (cs := fun i => M 67 (24 * e + i)) he ((congrFun (f1 65 (by omega)) e).trans bm) b32 ((congrFun (f1 66 (by omega)) e).trans zm) z24 ((congrFun (f1 62 (by omega)) 6).trans pm) h8 (fun i _ => congrFun (f1 67 (by omega)) _) b0 zP hL ((congrFun (f1 62 (by omega)) 3).trans hnt)).imp (fun _ _ q => ?_)
          obtain ⟨M', q1, q2, q3⟩ := q
          exact ⟨_, f_errk (by omega) h f1 q1, q2, q3⟩
      · refine OpOK.ofE (A := fun v M1 => ((∀ c, ¬ sIr c → c ≠ 1 → c ≠ 11 → M1 c = M c) ∧ (∀ j, j ≠ 10 → j ≠ 14 → M1 1 j = M 1 j) ∧ (∀ j, j < 6 → M1 11 j = nI (puT M (wkV M 0 (ordF (fun i => M 67 (24 * e + i))) P) P j)) ∧ M1 1 10 = nI (chT M (wkV M 0 (ordF (fun i => M 67 (24 * e + i))) P) P) ∧ M1 1 14 = nI (nt + 1)) ∧ v = nI (rsum M 0 (ordF (fun i => M 67 (24 * e + i))) P)) ?_ ?_
        · refine (x_reading_T he bx b32 zx z24 px h8 (cs := fun i => M 67 (24 * e + i)) hq b0 zP hL h pm ho hsu (by omega) hntx).imp (fun _ _ q => ?_)
          obtain ⟨M', q1, q2, q3⟩ := q
          exact ⟨(_, M'), ⟨q1, rfl⟩, q2, q3⟩
        · intro v M1 hA
          obtain ⟨⟨f1, f2, f3, f4, f5⟩, rfl⟩ := hA
          have e65 := f1 65 (by unfold sIr; omega) (by omega) (by omega)
          have e66 := f1 66 (by unfold sIr; omega) (by omega) (by omega)
          have e67 := f1 67 (by unfold sIr; omega) (by omega) (by omega)
          have e62 := f1 62 (by unfold sIr; omega) (by omega) (by omega)
          have e61 := congrFun (f1 61 (by unfold sIr; omega) (by omega) (by omega)) 7
          refine (m_reading_T (M := M1) (M0 := M) (cs := fun i => M 67 (24 * e + i)) he (by rw [e65]; exact bm) b32 (by rw [e66]; exact zm) z24 (by rw [e62]; exact pm) h8 (fun i _ => by rw [e67]) b0 zP hL h (fun j _ _ _ => by rw [e62]) pm ho hsu (nt := nt) (by omega) (e61.trans h.2.2.2.2.2) (fun j _ => by rw [e62]) (by rw [e62]) (by rw [e62]; exact hnt)).imp (fun _ _ q => ?_)
          obtain ⟨M', ⟨q1, q2, q3, q4, q5⟩, q6, q7⟩ := q
          refine ⟨M', rel_read h pm h8 (wv := wkV M 0 (ordF (fun i => M 67 (24 * e + i))) P) hnt (by omega) (fun j a1 a2 => ?_) ?_ ?_ (fun j hj => ?_) (fun j a1 a2 a3 => ?_) q4 q5 q3 (fun c hc a1 a2 a3 => (q1 c hc a3).trans (f1 c hc a1 a2)), q6, q7⟩
          · rw [q1 1 (by unfold sIr; omega) (by omega)]; exact f2 j a1 a2
          · rw [q1 1 (by unfold sIr; omega) (by omega)]; exact f4
          · rw [q1 1 (by unfold sIr; omega) (by omega)]; exact f5
          · rw [q1 11 (by unfold sIr; omega) (by omega)]; exact f3 j hj
          · rw [q2 j a1 a2 a3, e62]
    · have no : b = 0 ∨ ¬ z = P ∨ lst (trF (fun i => M 67 (24 * e + i)) P) 0 P < P := by
        have := (lst_le (trF (fun i => M 67 (24 * e + i)) P) P 0).2
        omega
      by_cases b0 : b = 0
      · subst b0
        refine OpOK.ofE (A := fun v M1 => (∃ M3, f42 M M3 ∧ M1 = up M3 60 2 (M3 60 2 + 1)) ∧ v = -1000000002) ?_ ?_
        · refine (x_reading_no he bx b32 zx z24 px h8 (cs := fun i => M (53 + 2 * e) i) (fun i v _ _ => Iff.rfl) (Or.inl rfl)).imp (fun _ _ q => ?_)
          obtain ⟨M', q1, q2, q3⟩ := q
          exact ⟨(_, up M' 60 2 (M' 60 2 + 1)), ⟨⟨M', q1, rfl⟩, rfl⟩, q2, q3⟩
        · intro v M1 hA
          obtain ⟨⟨M3, f1, rfl⟩, rfl⟩ := hA
          refine (m_reading_no (M := up M3 60 2 (M3 60 2 + 1)) (cs := fun i => M3 67 (24 * e + i)) he ((congrFun (f1 65 (by omega)) e).trans bm) b32 ((congrFun (f1 66 (by omega)) e).trans zm) z24 ((congrFun (f1 62 (by omega)) 6).trans pm) h8 (fun i _ => rfl) (Or.inl rfl)).imp (fun _ _ q => ?_)
          obtain ⟨M', q1, q2, q3⟩ := q
          exact ⟨_, f_errk (by omega) h f1 q1, q2, q3⟩
      · have hq : ∀ i v, i < 24 → v < 100 → (M (53 + 2 * e) i = nI v ↔ M 67 (24 * e + i) = nI v) := fun i v hi hv => numR_v (nr i hi) (by omega) hv
        refine OpOK.ofE (A := fun v M1 => (∃ M3, f42 M M3 ∧ M1 = up M3 60 2 (M3 60 2 + 1)) ∧ v = -1000000002) ?_ ?_
        · refine (x_reading_no he bx b32 zx z24 px h8 (cs := fun i => M 67 (24 * e + i)) hq no).imp (fun _ _ q => ?_)
          obtain ⟨M', q1, q2, q3⟩ := q
          exact ⟨(_, up M' 60 2 (M' 60 2 + 1)), ⟨⟨M', q1, rfl⟩, rfl⟩, q2, q3⟩
        · intro v M1 hA
          obtain ⟨⟨M3, f1, rfl⟩, rfl⟩ := hA
          refine (m_reading_no (M := up M3 60 2 (M3 60 2 + 1)) (cs := fun i => M 67 (24 * e + i)) he ((congrFun (f1 65 (by omega)) e).trans bm) b32 ((congrFun (f1 66 (by omega)) e).trans zm) z24 ((congrFun (f1 62 (by omega)) 6).trans pm) h8 (fun i _ => congrFun (f1 67 (by omega)) _) no).imp (fun _ _ q => ?_)
          obtain ⟨M', q1, q2, q3⟩ := q
          exact ⟨_, f_errk (by omega) h f1 q1, q2, q3⟩
  · exact OpOK.of (fun d => x_reading_o hi) (fun d => m_reading_o (M := up M 60 1 (M 60 1 + 1)) hi) rfl (h.err 1 (by omega))
