/-! OPERATION round -/
set_option maxRecDepth 100000 in
set_option maxHeartbeats 4000000 in
theorem c_takeOrder_T {ro : xRO} {d : Nat} {M : xM} {T : Nat} {e : Nat} (he : e < 4) {b z : Nat} (hb : M (52 + 2 * e) 1 = nI b) (b32 : b ≤ 32) (hz : M (52 + 2 * e) 2 = nI z) (z24 : z ≤ 24) {P : Nat} (h8 : P ≤ 8) {cs : Nat → Int32} (hq : ∀ i v, i < 24 → v < 100 → (M (53 + 2 * e) i = nI v ↔ cs i = nI v)) (b0 : ¬ b = 0) (zP : z = P) (hL : lst (trF cs P) 0 P = P) : Rn ro (d + 4) M_X3_takeOrder 0 [some (.ref 42), some (.ref (52 + 2 * e + 3)), some (.int (nI P)), none, none, none] [] (mk M T) (fun rr h => ∃ M', (f42 M M' ∧ ∀ j, j < P → M' 42 j = nI (ordF cs j)) ∧ rr = some (.int 1) ∧ h = mk M' T) := by
  refine R_go 1 (pc' := 1) (L' := [some (.ref 42), some (.ref (52 + 2 * e + 3)), some (.int (nI P)), none, none, none]) (st' := [.ref (52 + 2 * e + 3)]) (h' := mk M T) (fun _ => rfl) ?_
  refine R_getI (i := 69) (j := 1) (c := 52 + 2 * e) (sh_sheet (by omega)) rfl rfl rfl ?_
  refine R_top (y := nI b) (hb) ?_
  refine R_if 1 (c := (nI b) = 0) (t := 24) (f := 7) (L' := [some (.ref 42), some (.ref (52 + 2 * e + 3)), some (.int (nI P)), none, none, none]) (st' := []) (h' := mk M T) (fun _ => rfl) (fun g1 => ?_) (fun g1 => ?_)
  · replace g1 : b = 0 := (nI_eq (a := b) (b := 0) (by omega) (by omega)).mp g1
    omega
  · replace g1 : ¬ b = 0 := fun q => g1 ((nI_eq (a := b) (b := 0) (by omega) (by omega)).mpr q)
    refine R_go 1 (pc' := 8) (L' := [some (.ref 42), some (.ref (52 + 2 * e + 3)), some (.int (nI P)), none, none, none]) (st' := [.ref (52 + 2 * e + 3)]) (h' := mk M T) (fun _ => rfl) ?_
    refine R_getI (i := 74) (j := 2) (c := 52 + 2 * e) (sh_sheet (by omega)) rfl rfl rfl ?_
    refine R_top (y := nI z) (hz) ?_
    refine R_ifn 2 (c := (nI z) = (nI P)) (t := 24) (f := 15) (L' := [some (.ref 42), some (.ref (52 + 2 * e + 3)), some (.int (nI P)), none, none, none]) (st' := []) (h' := mk M T) (fun _ => rfl) (fun g2 => ?_) (fun g2 => ?_)
    · replace g2 : ¬ z = P := fun q => g2 ((nI_eq (a := z) (b := P) (by omega) (by omega)).mpr q)
      omega
    · replace g2 : z = P := (nI_eq (a := z) (b := P) (by omega) (by omega)).mp g2
      refine R_if 5 (c := (nI P) ≤ 8) (t := 26) (f := 24) (L' := [some (.ref 42), some (.ref (52 + 2 * e + 3)), some (.int (nI P)), none, none, none]) (st' := []) (h' := mk M T) (fun _ => rfl) (fun g3 => ?_) (fun g3 => ?_)
      · replace g3 : P ≤ 8 := (nI_leI (a := P) (b := 8) (by omega) (by omega)).mp g3
        refine R_go 4 (pc' := 31) (L' := [some (.ref 42), some (.ref (52 + 2 * e + 3)), some (.int (nI P)), some (.int 0), some (.int 0), none]) (st' := []) (h' := mk M T) (fun _ => rfl) ?_
        exact lp_take_T he h8 (by rw [hz, zP]) hq (fun i hi => lst_all P 0 i (by omega) (by omega)) P 0 none M (Nat.zero_add P) (fun _ _ => rfl) (fun j hj => absurd hj (Nat.not_lt_zero j))
      · replace g3 : ¬ P ≤ 8 := fun q => g3 ((nI_leI (a := P) (b := 8) (by omega) (by omega)).mpr q)
        omega
set_option maxRecDepth 100000 in
set_option maxHeartbeats 4000000 in
theorem m_isRound_T {ro : xRO} {d : Nat} {M : xM} {T : Nat} {e : Nat} (he : e < 4) {b z : Nat} (hb : M 65 e = nI b) (b32 : b ≤ 32) (hz : M 66 e = nI z) (z24 : z ≤ 24) {P : Nat} (hP : M 62 6 = nI P) (h8 : P ≤ 8) {cs : Nat → Int32} (hq : ∀ i, i < 24 → M 67 (24 * e + i) = cs i) (b0 : ¬ b = 0) (zP : z = P) (hL : lst (trF cs P) 0 P = P) : Rn ro (d + 4) M_X8_isRound 0 [some (.ref 64), some (.int (nI e)), none, none, none] [] (mk M T) (fun rr h => ∃ M', (f72 M M' ∧ ∀ j, j < P → M' 72 j = nI (ordF cs j)) ∧ rr = some (.int 1) ∧ h = mk M' T) := by
  refine R_go 3 (pc' := 5) (L' := [some (.ref 64), some (.int (nI e)), none, none, none]) (st' := [.int (nI e), .ref 68]) (h' := mk M T) (fun _ => rfl) ?_
  refine R_iald (c := 65) (n := 4) (j := e) rfl rfl (by omega) (by decide) ?_
  refine R_top (y := nI b) (hb) ?_
  refine R_if 1 (c := (nI b) = 0) (t := 25) (f := 9) (L' := [some (.ref 64), some (.int (nI e)), none, none, none]) (st' := []) (h' := mk M T) (fun _ => rfl) (fun g1 => ?_) (fun g1 => ?_)
  · replace g1 : b = 0 := (nI_eq (a := b) (b := 0) (by omega) (by omega)).mp g1
    omega
  · replace g1 : ¬ b = 0 := fun q => g1 ((nI_eq (a := b) (b := 0) (by omega) (by omega)).mpr q)
    refine R_go 3 (pc' := 14) (L' := [some (.ref 64), some (.int (nI e)), none, none, none]) (st' := [.int (nI e), .ref 69]) (h' := mk M T) (fun _ => rfl) ?_
    refine R_iald (c := 66) (n := 4) (j := e) rfl rfl (by omega) (by decide) ?_
    refine R_top (y := nI z) (hz) ?_
    refine R_go 4 (pc' := 22) (L' := [some (.ref 64), some (.int (nI e)), none, none, none]) (st' := [.int (M 62 6), .int (nI z)]) (h' := mk M T) (fun _ => rfl) ?_
    refine R_top (y := nI P) (hP) ?_
    refine R_if 1 (c := (nI z) = (nI P)) (t := 27) (f := 25) (L' := [some (.ref 64), some (.int (nI e)), none, none, none]) (st' := []) (h' := mk M T) (fun _ => rfl) (fun g2 => ?_) (fun g2 => ?_)
    · replace g2 : z = P := (nI_eq (a := z) (b := P) (by omega) (by omega)).mp g2
      refine R_go 4 (pc' := 31) (L' := [some (.ref 64), some (.int (nI e)), some (.int 0), some (.int 0), none]) (st' := []) (h' := mk M T) (fun _ => rfl) ?_
      exact lp_isr_T he h8 (by rw [hz, zP]) hP hq (fun i hi => lst_all P 0 i (by omega) (by omega)) P 0 none M (Nat.zero_add P) (fun _ _ => rfl) (fun j hj => absurd hj (Nat.not_lt_zero j))
    · replace g2 : ¬ z = P := fun q => g2 ((nI_eq (a := z) (b := P) (by omega) (by omega)).mpr q)
      omega
set_option maxRecDepth 100000 in
set_option maxHeartbeats 4000000 in
theorem c_takeOrder_no {ro : xRO} {d : Nat} {M : xM} {T : Nat} {e : Nat} (he : e < 4) {b z : Nat} (hb : M (52 + 2 * e) 1 = nI b) (b32 : b ≤ 32) (hz : M (52 + 2 * e) 2 = nI z) (z24 : z ≤ 24) {P : Nat} (h8 : P ≤ 8) {cs : Nat → Int32} (hq : ∀ i v, i < 24 → v < 100 → (M (53 + 2 * e) i = nI v ↔ cs i = nI v)) (no : b = 0 ∨ ¬ z = P ∨ lst (trF cs P) 0 P < P) : Rn ro (d + 4) M_X3_takeOrder 0 [some (.ref 42), some (.ref (52 + 2 * e + 3)), some (.int (nI P)), none, none, none] [] (mk M T) (fun rr h => ∃ M', f42 M M' ∧ rr = some (.int 0) ∧ h = mk M' T) := by
  refine R_go 1 (pc' := 1) (L' := [some (.ref 42), some (.ref (52 + 2 * e + 3)), some (.int (nI P)), none, none, none]) (st' := [.ref (52 + 2 * e + 3)]) (h' := mk M T) (fun _ => rfl) ?_
  refine R_getI (i := 69) (j := 1) (c := 52 + 2 * e) (sh_sheet (by omega)) rfl rfl rfl ?_
  refine R_top (y := nI b) (hb) ?_
  refine R_if 1 (c := (nI b) = 0) (t := 24) (f := 7) (L' := [some (.ref 42), some (.ref (52 + 2 * e + 3)), some (.int (nI P)), none, none, none]) (st' := []) (h' := mk M T) (fun _ => rfl) (fun g1 => ?_) (fun g1 => ?_)
  · replace g1 : b = 0 := (nI_eq (a := b) (b := 0) (by omega) (by omega)).mp g1
    refine R_ret 2 (pcr := 25) (v := some (.int 0)) (h' := mk M T) (fun _ => rfl) ?_
    exact ⟨M, fun _ _ => rfl, rfl, rfl⟩
  · replace g1 : ¬ b = 0 := fun q => g1 ((nI_eq (a := b) (b := 0) (by omega) (by omega)).mpr q)
    refine R_go 1 (pc' := 8) (L' := [some (.ref 42), some (.ref (52 + 2 * e + 3)), some (.int (nI P)), none, none, none]) (st' := [.ref (52 + 2 * e + 3)]) (h' := mk M T) (fun _ => rfl) ?_
    refine R_getI (i := 74) (j := 2) (c := 52 + 2 * e) (sh_sheet (by omega)) rfl rfl rfl ?_
    refine R_top (y := nI z) (hz) ?_
    refine R_ifn 2 (c := (nI z) = (nI P)) (t := 24) (f := 15) (L' := [some (.ref 42), some (.ref (52 + 2 * e + 3)), some (.int (nI P)), none, none, none]) (st' := []) (h' := mk M T) (fun _ => rfl) (fun g2 => ?_) (fun g2 => ?_)
    · replace g2 : ¬ z = P := fun q => g2 ((nI_eq (a := z) (b := P) (by omega) (by omega)).mpr q)
      refine R_ret 2 (pcr := 25) (v := some (.int 0)) (h' := mk M T) (fun _ => rfl) ?_
      exact ⟨M, fun _ _ => rfl, rfl, rfl⟩
    · replace g2 : z = P := (nI_eq (a := z) (b := P) (by omega) (by omega)).mp g2
      refine R_if 5 (c := (nI P) ≤ 8) (t := 26) (f := 24) (L' := [some (.ref 42), some (.ref (52 + 2 * e + 3)), some (.int (nI P)), none, none, none]) (st' := []) (h' := mk M T) (fun _ => rfl) (fun g3 => ?_) (fun g3 => ?_)
      · replace g3 : P ≤ 8 := (nI_leI (a := P) (b := 8) (by omega) (by omega)).mp g3
        refine R_go 4 (pc' := 31) (L' := [some (.ref 42), some (.ref (52 + 2 * e + 3)), some (.int (nI P)), some (.int 0), some (.int 0), none]) (st' := []) (h' := mk M T) (fun _ => rfl) ?_
        exact lp_take_F he h8 (by rw [hz]; exact congrArg nI (by omega)) hq P 0 none M (Nat.zero_add P) (by rcases no with q | q | q; omega; omega; exact q) (fun _ _ => rfl)
      · replace g3 : ¬ P ≤ 8 := fun q => g3 ((nI_leI (a := P) (b := 8) (by omega) (by omega)).mpr q)
        omega
set_option maxRecDepth 100000 in
set_option maxHeartbeats 4000000 in
theorem m_isRound_no {ro : xRO} {d : Nat} {M : xM} {T : Nat} {e : Nat} (he : e < 4) {b z : Nat} (hb : M 65 e = nI b) (b32 : b ≤ 32) (hz : M 66 e = nI z) (z24 : z ≤ 24) {P : Nat} (hP : M 62 6 = nI P) (h8 : P ≤ 8) {cs : Nat → Int32} (hq : ∀ i, i < 24 → M 67 (24 * e + i) = cs i) (no : b = 0 ∨ ¬ z = P ∨ lst (trF cs P) 0 P < P) : Rn ro (d + 4) M_X8_isRound 0 [some (.ref 64), some (.int (nI e)), none, none, none] [] (mk M T) (fun rr h => ∃ M', f72 M M' ∧ rr = some (.int 0) ∧ h = mk M' T) := by
  refine R_go 3 (pc' := 5) (L' := [some (.ref 64), some (.int (nI e)), none, none, none]) (st' := [.int (nI e), .ref 68]) (h' := mk M T) (fun _ => rfl) ?_
  refine R_iald (c := 65) (n := 4) (j := e) rfl rfl (by omega) (by decide) ?_
  refine R_top (y := nI b) (hb) ?_
  refine R_if 1 (c := (nI b) = 0) (t := 25) (f := 9) (L' := [some (.ref 64), some (.int (nI e)), none, none, none]) (st' := []) (h' := mk M T) (fun _ => rfl) (fun g1 => ?_) (fun g1 => ?_)
  · replace g1 : b = 0 := (nI_eq (a := b) (b := 0) (by omega) (by omega)).mp g1
    refine R_ret 2 (pcr := 26) (v := some (.int 0)) (h' := mk M T) (fun _ => rfl) ?_
    exact ⟨M, fun _ _ => rfl, rfl, rfl⟩
  · replace g1 : ¬ b = 0 := fun q => g1 ((nI_eq (a := b) (b := 0) (by omega) (by omega)).mpr q)
    refine R_go 3 (pc' := 14) (L' := [some (.ref 64), some (.int (nI e)), none, none, none]) (st' := [.int (nI e), .ref 69]) (h' := mk M T) (fun _ => rfl) ?_
    refine R_iald (c := 66) (n := 4) (j := e) rfl rfl (by omega) (by decide) ?_
    refine R_top (y := nI z) (hz) ?_
    refine R_go 4 (pc' := 22) (L' := [some (.ref 64), some (.int (nI e)), none, none, none]) (st' := [.int (M 62 6), .int (nI z)]) (h' := mk M T) (fun _ => rfl) ?_
    refine R_top (y := nI P) (hP) ?_
    refine R_if 1 (c := (nI z) = (nI P)) (t := 27) (f := 25) (L' := [some (.ref 64), some (.int (nI e)), none, none, none]) (st' := []) (h' := mk M T) (fun _ => rfl) (fun g2 => ?_) (fun g2 => ?_)
    · replace g2 : z = P := (nI_eq (a := z) (b := P) (by omega) (by omega)).mp g2
      refine R_go 4 (pc' := 31) (L' := [some (.ref 64), some (.int (nI e)), some (.int 0), some (.int 0), none]) (st' := []) (h' := mk M T) (fun _ => rfl) ?_
      exact lp_isr_F he h8 (by rw [hz]; exact congrArg nI (by omega)) hP hq P 0 none M (Nat.zero_add P) (by rcases no with q | q | q; omega; omega; exact q) (fun _ _ => rfl)
    · replace g2 : ¬ z = P := fun q => g2 ((nI_eq (a := z) (b := P) (by omega) (by omega)).mpr q)
      refine R_ret 2 (pcr := 26) (v := some (.int 0)) (h' := mk M T) (fun _ => rfl) ?_
      exact ⟨M, fun _ _ => rfl, rfl, rfl⟩
theorem Rn_deep {ro : xRO} {md : MD} {L : xL} {h : xH} {Q : Option Value → xH → Prop} (hr : Rn ro (0 + 90) md 0 L [] h Q) : ∀ d, Rn ro (d + 90) md 0 L [] h Q := by
  intro d
  induction d with
  | zero => exact hr
  | succ d ih => exact (show d + 1 + 90 = d + 90 + 1 by omega) ▸ ih.deep
theorem OpOK.ofE {ro : xRO} {yx ym : MD} {Lx Lm : xL} {M : xM} {T : Nat} {A : Int32 → xM → Prop} (hx : Rn ro (0 + 90) yx 0 Lx [] (mk M T) (fun r h => ∃ p : Int32 × xM, A p.1 p.2 ∧ r = some (.int p.1) ∧ h = mk p.2 T)) (hm : ∀ v M1, A v M1 → Rn ro (0 + 90) ym 0 Lm [] (mk M1 T) (fun r h => ∃ M2, Rel M2 ∧ r = some (.int v) ∧ h = mk M2 T)) : OpOK ro yx ym Lx Lm M T := by
  obtain ⟨n, pcr, v, h1, e, ⟨w, M1⟩, pA, pr, ph⟩ := hx
  obtain ⟨n', pcr', v', h1', e', M2, q1, q2, q3⟩ := hm w M1 pA
  exact ⟨w, M1, T, M2, T, Rn_deep ⟨n, pcr, v, h1, e, pr, ph⟩, Rn_deep ⟨n', pcr', v', h1', e', q2, q3⟩, q1⟩
set_option maxRecDepth 100000 in
set_option maxHeartbeats 4000000 in
theorem x_round_o {ro : xRO} {d : Nat} {M : xM} {T : Nat} {i : Int32} (hi : ¬ (0 ≤ i ∧ i < 4)) : Rn ro (d + 90) M_X7_round 0 [some (.ref 3), some (.int i), none] [] (mk M T) (fun r h => r = some (.int (-1000000001)) ∧ h = mk (up M 60 1 (M 60 1 + 1)) T) := by
  refine R_go 2 (pc' := 2) (L' := [some (.ref 3), some (.int i), none]) (st' := [.int i, .ref 3]) (h' := mk M T) (fun _ => rfl) ?_
  refine R_callD (i := .invokevirtual 180) (kd := 0) (y := M_X7_sheetAt) (as := [.ref 3, .int i]) (r := []) (L0 := [some (.ref 3), some (.int i)]) (v := some (.null)) (h' := mk M T) (pc' := 5) (st' := [.null]) rfl rfl rfl rfl rfl rfl (c_sheetAt_out hi) ?_
  refine R_go 5 (pc' := 12) (L' := [some (.ref 3), some (.int i), some (.null)]) (st' := [.int 1, .ref 3]) (h' := mk M T) (fun _ => rfl) ?_
  refine R_callD (i := .invokevirtual 75) (kd := 0) (y := M_X7_error) (as := [.ref 3, .int 1]) (r := []) (L0 := [some (.ref 3), some (.int 1)]) (v := some (.int (-1000000001))) (h' := mk (up M 60 1 (M 60 1 + 1)) T) (pc' := 15) (st' := [.int (-1000000001)]) rfl rfl rfl rfl rfl rfl (c_error_1) ?_
  refine R_ret 1 (pcr := 15) (v := some (.int (-1000000001))) (h' := mk (up M 60 1 (M 60 1 + 1)) T) (fun _ => rfl) ?_
  exact ⟨rfl, rfl⟩
set_option maxRecDepth 100000 in
set_option maxHeartbeats 4000000 in
theorem m_round_o {ro : xRO} {d : Nat} {M : xM} {T : Nat} {i : Int32} (hi : ¬ (0 ≤ i ∧ i < 4)) : Rn ro (d + 90) M_X8_round 0 [some (.ref 64), some (.int i)] [] (mk M T) (fun r h => r = some (.int (-1000000001)) ∧ h = mk (up M 64 1 (M 64 1 + 1)) T) := by
  refine R_go 1 (pc' := 1) (L' := [some (.ref 64), some (.int i)]) (st' := [.int i]) (h' := mk M T) (fun _ => rfl) ?_
  refine R_call2 (i := .invokestatic 168) (kd := 1) (y := M_X8_isSheet) (as := [.int i]) (r := []) (L0 := [some (.int i)]) (v1 := some (.int 1)) (v2 := some (.int 0)) (h1' := mk M T) (h2' := mk M T) (pc' := 4) (st1 := [.int 1]) (st2 := [.int 0]) rfl rfl rfl rfl rfl rfl (m_isSheet) (fun g1 => ?_) (fun g1 => ?_)
  · exact absurd g1 (sh_out hi)
  · refine R_go 3 (pc' := 10) (L' := [some (.ref 64), some (.int i)]) (st' := [.int (-1000000001), .ref 64]) (h' := mk M T) (fun _ => rfl) ?_
    refine R_callD (i := .invokevirtual 81) (kd := 0) (y := M_X8_error) (as := [.ref 64, .int (-1000000001)]) (r := []) (L0 := [some (.ref 64), some (.int (-1000000001))]) (v := some (.int (-1000000001))) (h' := mk (up M 64 1 (M 64 1 + 1)) T) (pc' := 13) (st' := [.int (-1000000001)]) rfl rfl rfl rfl rfl rfl (m_error_1) ?_
    refine R_ret 1 (pcr := 13) (v := some (.int (-1000000001))) (h' := mk (up M 64 1 (M 64 1 + 1)) T) (fun _ => rfl) ?_
    exact ⟨rfl, rfl⟩
set_option maxRecDepth 100000 in
set_option maxHeartbeats 4000000 in
theorem x_round_no {ro : xRO} {d : Nat} {M : xM} {T : Nat} {e : Nat} (he : e < 4) {b z : Nat} (hb : M (52 + 2 * e) 1 = nI b) (b32 : b ≤ 32) (hz : M (52 + 2 * e) 2 = nI z) (z24 : z ≤ 24) {P : Nat} (hP : M 1 6 = nI P) (h8 : P ≤ 8) {cs : Nat → Int32} (hq : ∀ i v, i < 24 → v < 100 → (M (53 + 2 * e) i = nI v ↔ cs i = nI v)) (no : b = 0 ∨ ¬ z = P ∨ lst (trF cs P) 0 P < P) : Rn ro (d + 90) M_X7_round 0 [some (.ref 3), some (.int (nI e)), none] [] (mk M T) (fun rr h => ∃ M', (f42 M M') ∧ rr = some (.int (-1000000002)) ∧ h = mk (up M' 60 2 (M' 60 2 + 1)) T) := by
  refine R_go 2 (pc' := 2) (L' := [some (.ref 3), some (.int (nI e)), none]) (st' := [.int (nI e), .ref 3]) (h' := mk M T) (fun _ => rfl) ?_
  refine R_callD (i := .invokevirtual 180) (kd := 0) (y := M_X7_sheetAt) (as := [.ref 3, .int (nI e)]) (r := []) (L0 := [some (.ref 3), some (.int (nI e))]) (v := some (.ref (52 + 2 * e + 3))) (h' := mk M T) (pc' := 5) (st' := [.ref (52 + 2 * e + 3)]) rfl rfl rfl rfl rfl rfl (c_sheetAt_in (n := e) (by omega)) ?_
  refine R_go 9 (pc' := 28) (L' := [some (.ref 3), some (.int (nI e)), some (.ref (52 + 2 * e + 3))]) (st' := [.int (M 1 6), .ref (52 + 2 * e + 3), .ref 42]) (h' := mk M T) (fun _ => rfl) ?_
  refine R_top (y := nI P) (hP) ?_
  refine R_callE (i := .invokevirtual 184) (kd := 0) (y := M_X3_takeOrder) (as := [.ref 42, .ref (52 + 2 * e + 3), .int (nI P)]) (r := []) (L0 := [some (.ref 42), some (.ref (52 + 2 * e + 3)), some (.int (nI P)), none, none, none]) (v := fun M1 => some (.int 0)) (h' := fun M1 => mk M1 T) (pc' := 31) (st' := fun M1 => [.int 0]) rfl rfl rfl rfl rfl rfl (c_takeOrder_no he hb b32 hz z24 h8 hq no) (fun M1 x1 => ?_)
  have xr := x1
  refine R_go 3 (pc' := 36) (L' := [some (.ref 3), some (.int (nI e)), some (.ref (52 + 2 * e + 3))]) (st' := [.int 2, .ref 3]) (h' := mk M1 T) (fun _ => rfl) ?_
  refine R_callD (i := .invokevirtual 75) (kd := 0) (y := M_X7_error) (as := [.ref 3, .int 2]) (r := []) (L0 := [some (.ref 3), some (.int 2)]) (v := some (.int (-1000000002))) (h' := mk (up M1 60 2 (M1 60 2 + 1)) T) (pc' := 39) (st' := [.int (-1000000002)]) rfl rfl rfl rfl rfl rfl (c_error_2) ?_
  refine R_ret 1 (pcr := 39) (v := some (.int (-1000000002))) (h' := mk (up M1 60 2 (M1 60 2 + 1)) T) (fun _ => rfl) ?_
  exact ⟨M1, xr, rfl, rfl⟩
set_option maxRecDepth 100000 in
set_option maxHeartbeats 4000000 in
theorem m_round_no {ro : xRO} {d : Nat} {M : xM} {T : Nat} {e : Nat} (he : e < 4) {b z : Nat} (hb : M 65 e = nI b) (b32 : b ≤ 32) (hz : M 66 e = nI z) (z24 : z ≤ 24) {P : Nat} (hP : M 62 6 = nI P) (h8 : P ≤ 8) {cs : Nat → Int32} (hq : ∀ i, i < 24 → M 67 (24 * e + i) = cs i) (no : b = 0 ∨ ¬ z = P ∨ lst (trF cs P) 0 P < P) : Rn ro (d + 90) M_X8_round 0 [some (.ref 64), some (.int (nI e))] [] (mk M T) (fun rr h => ∃ M', (f72 M M') ∧ rr = some (.int (-1000000002)) ∧ h = mk (up M' 64 2 (M' 64 2 + 1)) T) := by
  refine R_go 1 (pc' := 1) (L' := [some (.ref 64), some (.int (nI e))]) (st' := [.int (nI e)]) (h' := mk M T) (fun _ => rfl) ?_
  refine R_call2 (i := .invokestatic 168) (kd := 1) (y := M_X8_isSheet) (as := [.int (nI e)]) (r := []) (L0 := [some (.int (nI e))]) (v1 := some (.int 1)) (v2 := some (.int 0)) (h1' := mk M T) (h2' := mk M T) (pc' := 4) (st1 := [.int 1]) (st2 := [.int 0]) rfl rfl rfl rfl rfl rfl (m_isSheet) (fun x1 => ?_) (fun x1 => ?_)
  · refine R_go 3 (pc' := 16) (L' := [some (.ref 64), some (.int (nI e))]) (st' := [.int (nI e), .ref 64]) (h' := mk M T) (fun _ => rfl) ?_
    refine R_callE (i := .invokevirtual 171) (kd := 0) (y := M_X8_isRound) (as := [.ref 64, .int (nI e)]) (r := []) (L0 := [some (.ref 64), some (.int (nI e)), none, none, none]) (v := fun M1 => some (.int 0)) (h' := fun M1 => mk M1 T) (pc' := 19) (st' := fun M1 => [.int 0]) rfl rfl rfl rfl rfl rfl (m_isRound_no he hb b32 hz z24 hP h8 hq no) (fun M1 x2 => ?_)
    have xr := x2
    refine R_go 3 (pc' := 32) (L' := [some (.ref 64), some (.int (nI e))]) (st' := [.int (-1000000002), .ref 64]) (h' := mk M1 T) (fun _ => rfl) ?_
    refine R_callD (i := .invokevirtual 81) (kd := 0) (y := M_X8_error) (as := [.ref 64, .int (-1000000002)]) (r := []) (L0 := [some (.ref 64), some (.int (-1000000002))]) (v := some (.int (-1000000002))) (h' := mk (up M1 64 2 (M1 64 2 + 1)) T) (pc' := 35) (st' := [.int (-1000000002)]) rfl rfl rfl rfl rfl rfl (m_error_2) ?_
    refine R_ret 1 (pcr := 35) (v := some (.int (-1000000002))) (h' := mk (up M1 64 2 (M1 64 2 + 1)) T) (fun _ => rfl) ?_
    exact ⟨M1, xr, rfl, rfl⟩
  · exact absurd (nI_in2 (a := 0) (b := 3) (by omega) (by omega) (by omega)) x1
set_option maxRecDepth 100000 in
set_option maxHeartbeats 4000000 in
theorem x_round_T {ro : xRO} {d : Nat} {M : xM} {T : Nat} {e : Nat} (he : e < 4) {b z : Nat} (hb : M (52 + 2 * e) 1 = nI b) (b32 : b ≤ 32) (hz : M (52 + 2 * e) 2 = nI z) (z24 : z ≤ 24) {P : Nat} (hP : M 1 6 = nI P) (h8 : P ≤ 8) {cs : Nat → Int32} (hq : ∀ i v, i < 24 → v < 100 → (M (53 + 2 * e) i = nI v ↔ cs i = nI v)) (b0 : ¬ b = 0) (zP : z = P) (hL : lst (trF cs P) 0 P = P) {M0 : xM} (h0 : Rel M0) (hf : FC M0 M) (hP0 : M0 62 6 = nI P) (ho : ∀ i, i < P → ordF cs i < P) : Rn ro (d + 90) M_X7_round 0 [some (.ref 3), some (.int (nI e)), none] [] (mk M T) (fun rr h => ∃ M', FS M M' ∧ rr = some (.int (nI (rsum M0 0 (ordF cs) P))) ∧ h = mk M' T) := by
  refine R_go 2 (pc' := 2) (L' := [some (.ref 3), some (.int (nI e)), none]) (st' := [.int (nI e), .ref 3]) (h' := mk M T) (fun _ => rfl) ?_
  refine R_callD (i := .invokevirtual 180) (kd := 0) (y := M_X7_sheetAt) (as := [.ref 3, .int (nI e)]) (r := []) (L0 := [some (.ref 3), some (.int (nI e))]) (v := some (.ref (52 + 2 * e + 3))) (h' := mk M T) (pc' := 5) (st' := [.ref (52 + 2 * e + 3)]) rfl rfl rfl rfl rfl rfl (c_sheetAt_in (n := e) (by omega)) ?_
  refine R_go 9 (pc' := 28) (L' := [some (.ref 3), some (.int (nI e)), some (.ref (52 + 2 * e + 3))]) (st' := [.int (M 1 6), .ref (52 + 2 * e + 3), .ref 42]) (h' := mk M T) (fun _ => rfl) ?_
  refine R_top (y := nI P) (hP) ?_
  refine R_callE (i := .invokevirtual 184) (kd := 0) (y := M_X3_takeOrder) (as := [.ref 42, .ref (52 + 2 * e + 3), .int (nI P)]) (r := []) (L0 := [some (.ref 42), some (.ref (52 + 2 * e + 3)), some (.int (nI P)), none, none, none]) (v := fun M1 => some (.int 1)) (h' := fun M1 => mk M1 T) (pc' := 31) (st' := fun M1 => [.int 1]) rfl rfl rfl rfl rfl rfl (c_takeOrder_T he hb b32 hz z24 h8 hq b0 zP hL) (fun M1 x1 => ?_)
  have xr := x1
  refine R_go 5 (pc' := 48) (L' := [some (.ref 3), some (.int (nI e)), some (.ref (52 + 2 * e + 3))]) (st' := [.ref 4, .ref 42]) (h' := mk M1 T) (fun _ => rfl) ?_
  refine R_callE (i := .invokevirtual 188) (kd := 0) (y := M_X3_thoughtOf) (as := [.ref 42, .ref 4]) (r := []) (L0 := [some (.ref 42), some (.ref 4)]) (v := fun M2 => some (.int (nI (rsum M0 0 (ordF cs) P)))) (h' := fun M2 => mk M2 T) (pc' := 51) (st' := fun M2 => [.int (nI (rsum M0 0 (ordF cs) P))]) rfl rfl rfl rfl rfl rfl (c_thoughtOf (ord := ordF cs) h0 (FC_42 hf xr.1) hP0 h8 ho xr.2) (fun M2 x2 => ?_)
  have xw := x2
  refine R_ret 1 (pcr := 51) (v := some (.int (nI (rsum M0 0 (ordF cs) P)))) (h' := mk M2 T) (fun _ => rfl) ?_
  exact ⟨M2, fun c hc => (xw c hc).trans (xr.1 c (by unfold sIr at hc; omega)), rfl, rfl⟩
set_option maxRecDepth 100000 in
set_option maxHeartbeats 4000000 in
theorem m_round_T {ro : xRO} {d : Nat} {M : xM} {T : Nat} {e : Nat} (he : e < 4) {b z : Nat} (hb : M 65 e = nI b) (b32 : b ≤ 32) (hz : M 66 e = nI z) (z24 : z ≤ 24) {P : Nat} (hP : M 62 6 = nI P) (h8 : P ≤ 8) {cs : Nat → Int32} (hq : ∀ i, i < 24 → M 67 (24 * e + i) = cs i) (b0 : ¬ b = 0) (zP : z = P) (hL : lst (trF cs P) 0 P = P) {M0 : xM} (h0 : Rel M0) (hf : FM M0 M) (hP0 : M0 62 6 = nI P) (ho : ∀ i, i < P → ordF cs i < P) (hB : M 61 7 = 0) : Rn ro (d + 90) M_X8_round 0 [some (.ref 64), some (.int (nI e))] [] (mk M T) (fun rr h => ∃ M', FS M M' ∧ rr = some (.int (nI (rsum M0 0 (ordF cs) P))) ∧ h = mk M' T) := by
  refine R_go 1 (pc' := 1) (L' := [some (.ref 64), some (.int (nI e))]) (st' := [.int (nI e)]) (h' := mk M T) (fun _ => rfl) ?_
  refine R_call2 (i := .invokestatic 168) (kd := 1) (y := M_X8_isSheet) (as := [.int (nI e)]) (r := []) (L0 := [some (.int (nI e))]) (v1 := some (.int 1)) (v2 := some (.int 0)) (h1' := mk M T) (h2' := mk M T) (pc' := 4) (st1 := [.int 1]) (st2 := [.int 0]) rfl rfl rfl rfl rfl rfl (m_isSheet) (fun x1 => ?_) (fun x1 => ?_)
  · refine R_go 3 (pc' := 16) (L' := [some (.ref 64), some (.int (nI e))]) (st' := [.int (nI e), .ref 64]) (h' := mk M T) (fun _ => rfl) ?_
    refine R_callE (i := .invokevirtual 171) (kd := 0) (y := M_X8_isRound) (as := [.ref 64, .int (nI e)]) (r := []) (L0 := [some (.ref 64), some (.int (nI e)), none, none, none]) (v := fun M1 => some (.int 1)) (h' := fun M1 => mk M1 T) (pc' := 19) (st' := fun M1 => [.int 1]) rfl rfl rfl rfl rfl rfl (m_isRound_T he hb b32 hz z24 hP h8 hq b0 zP hL) (fun M1 x2 => ?_)
    have xr := x2
    refine R_go 2 (pc' := 23) (L' := [some (.ref 64), some (.int (nI e))]) (st' := [.ref 64]) (h' := mk M1 T) (fun _ => rfl) ?_
    refine R_callE (i := .invokevirtual 174) (kd := 0) (y := M_X8_roundOf) (as := [.ref 64]) (r := []) (L0 := [some (.ref 64), none, none, none, none, none]) (v := fun M2 => some (.int (nI (rsum M0 0 (ordF cs) P)))) (h' := fun M2 => mk M2 T) (pc' := 26) (st' := fun M2 => [.int (nI (rsum M0 0 (ordF cs) P))]) rfl rfl rfl rfl rfl rfl (m_roundOf (ord := ordF cs) (B := 0) h0 (FM_72 hf xr.1) hP0 h8 ho xr.2 ((congrFun (xr.1 61 (by omega)) 7).trans hB)) (fun M2 x3 => ?_)
    have xw := x3
    refine R_ret 2 (pcr := 35) (v := some (.int (nI (rsum M0 0 (ordF cs) P)))) (h' := mk M2 T) (fun _ => rfl) ?_
    exact ⟨M2, fun c hc => by unfold sIr at hc; exact (xw.2.1 c (by omega) (by omega) (by omega)).trans (xr.1 c (by omega)), rfl, rfl⟩
  · exact absurd (nI_in2 (a := 0) (b := 3) (by omega) (by omega) (by omega)) x1
/-- an error behind what an act left -/
theorem f_err {M M1 M2 : xM} (h : Rel M) (h1 : f42 M M1) (h2 : f72 (up M1 60 2 (M1 60 2 + 1)) M2) : Rel (up M2 64 2 (M2 64 2 + 1)) := by
  have r1 : Rel M1 := FS_rel h (fun c hc => h1 c (by unfold sIr at hc; omega))
  have r2 := r1.err 2 (by omega)
  refine FS_rel r2 (fun c hc => ?_)
  funext j
  rw [up_rd, up_rd]
  by_cases q : c = 64 ∧ j = 2
  · rw [if_pos q, if_pos q, h2 64 (by omega)]
  · rw [if_neg q, if_neg q, h2 c (by unfold sIr at hc; omega)]
theorem ho_of {cs : Nat → Int32} {P : Nat} (h8 : P ≤ 8) (hL : lst (trF cs P) 0 P = P) : ∀ i, i < P → ordF cs i < P := by
  intro i hi
  obtain ⟨v, v1, v2, v3, v4⟩ := trF_f h8 (lst_all (f := trF cs P) P 0 i (by omega) (by omega))
  omega
set_option maxHeartbeats 4000000 in
theorem op_round {ro : xRO} {M : xM} {T : Nat} (h : Rel M) {i : Int32} : OpOK ro M_X7_round M_X8_round [some (.ref 3), some (.int i), none] [some (.ref 64), some (.int i)] M T := by
  obtain ⟨P, H, h8, h6, pm, hm, px, hx, a, b1, b2, b3, b4, c2, c3, c4, c5⟩ := rel_all h
  rcases nI_cases i 4 (by omega) with ⟨e, he, rfl⟩ | hi
  · obtain ⟨b, z, bx, bm, b5, zx, zm, z24, bz, nr⟩ := rel_sh h he
    have b32 : b ≤ 32 := by omega
    by_cases good : ¬ b = 0 ∧ z = P ∧ lst (trF (fun i => M 67 (24 * e + i)) P) 0 P = P
    · obtain ⟨b0, zP, hL⟩ := good
      have hq : ∀ i v, i < 24 → v < 100 → (M (53 + 2 * e) i = nI v ↔ M 67 (24 * e + i) = nI v) := fun i v hi hv => numR_v (nr i hi) (by omega) hv
      have ho := ho_of h8 hL
      refine OpOK.ofE (A := fun v M1 => FS M M1 ∧ v = nI (rsum M 0 (ordF (fun i => M 67 (24 * e + i))) P)) ?_ ?_
      · refine (x_round_T (M0 := M) he bx b32 zx z24 px h8 (cs := fun i => M 67 (24 * e + i)) hq b0 zP hL h FC_refl pm ho).imp (fun _ _ q => ?_)
        obtain ⟨M', q1, q2, q3⟩ := q
        exact ⟨(_, M'), ⟨q1, rfl⟩, q2, q3⟩
      · intro v M1 hA
        obtain ⟨f1, rfl⟩ := hA
        have e65 := f1 65 (by unfold sIr; omega)
        have e66 := f1 66 (by unfold sIr; omega)
        have e67 := f1 67 (by unfold sIr; omega)
        have e62 := f1 62 (by unfold sIr; omega)
        have e61 := congrFun (f1 61 (by unfold sIr; omega)) 7
        refine (m_round_T (M0 := M) (cs := fun i => M 67 (24 * e + i)) he (by rw [e65]; exact bm) b32 (by rw [e66]; exact zm) z24 (by rw [e62]; exact pm) h8 (fun i _ => by rw [e67]) b0 zP hL h (fun j _ _ _ => by rw [e62]) pm ho (e61.trans h.2.2.2.2.2)).imp (fun _ _ q => ?_)
        obtain ⟨M', q1, q2, q3⟩ := q
        exact ⟨M', FS_rel h (fun c hc => (q1 c hc).trans (f1 c hc)), q2, q3⟩
    · have no : b = 0 ∨ ¬ z = P ∨ lst (trF (fun i => M 67 (24 * e + i)) P) 0 P < P := by
        have := (lst_le (trF (fun i => M 67 (24 * e + i)) P) P 0).2
        omega
      by_cases b0 : b = 0
      · subst b0
        refine OpOK.ofE (A := fun v M1 => (∃ M3, f42 M M3 ∧ M1 = up M3 60 2 (M3 60 2 + 1)) ∧ v = -1000000002) ?_ ?_
        · refine (x_round_no he bx b32 zx z24 px h8 (cs := fun i => M (53 + 2 * e) i) (fun i v _ _ => Iff.rfl) (Or.inl rfl)).imp (fun _ _ q => ?_)
          obtain ⟨M', q1, q2, q3⟩ := q
          exact ⟨(_, up M' 60 2 (M' 60 2 + 1)), ⟨⟨M', q1, rfl⟩, rfl⟩, q2, q3⟩
        · intro v M1 hA
          obtain ⟨⟨M3, f1, rfl⟩, rfl⟩ := hA
          refine (m_round_no (M := up M3 60 2 (M3 60 2 + 1)) (cs := fun i => M3 67 (24 * e + i)) he ((congrFun (f1 65 (by omega)) e).trans bm) b32 ((congrFun (f1 66 (by omega)) e).trans zm) z24 ((congrFun (f1 62 (by omega)) 6).trans pm) h8 (fun i _ => rfl) (Or.inl rfl)).imp (fun _ _ q => ?_)
          obtain ⟨M', q1, q2, q3⟩ := q
          exact ⟨_, f_err h f1 q1, q2, q3⟩
      · have hq : ∀ i v, i < 24 → v < 100 → (M (53 + 2 * e) i = nI v ↔ M 67 (24 * e + i) = nI v) := fun i v hi hv => numR_v (nr i hi) (by omega) hv
        refine OpOK.ofE (A := fun v M1 => (∃ M3, f42 M M3 ∧ M1 = up M3 60 2 (M3 60 2 + 1)) ∧ v = -1000000002) ?_ ?_
        · refine (x_round_no he bx b32 zx z24 px h8 (cs := fun i => M 67 (24 * e + i)) hq no).imp (fun _ _ q => ?_)
          obtain ⟨M', q1, q2, q3⟩ := q
          exact ⟨(_, up M' 60 2 (M' 60 2 + 1)), ⟨⟨M', q1, rfl⟩, rfl⟩, q2, q3⟩
        · intro v M1 hA
          obtain ⟨⟨M3, f1, rfl⟩, rfl⟩ := hA
          refine (m_round_no (M := up M3 60 2 (M3 60 2 + 1)) (cs := fun i => M 67 (24 * e + i)) he ((congrFun (f1 65 (by omega)) e).trans bm) b32 ((congrFun (f1 66 (by omega)) e).trans zm) z24 ((congrFun (f1 62 (by omega)) 6).trans pm) h8 (fun i _ => congrFun (f1 67 (by omega)) _) no).imp (fun _ _ q => ?_)
          obtain ⟨M', q1, q2, q3⟩ := q
          exact ⟨_, f_err h f1 q1, q2, q3⟩
  · exact OpOK.of (fun d => x_round_o hi) (fun d => m_round_o (M := up M 60 1 (M 60 1 + 1)) hi) rfl (h.err 1 (by omega))
