/-! THE MODEL: small methods -/
set_option maxRecDepth 100000 in
set_option maxHeartbeats 4000000 in
theorem m_in {ro : xRO} {d : Nat} {M : xM} {T : Nat} {v a b : Int32} : Rn ro d M_X8_in 0 [some (.int v), some (.int a), some (.int b)] [] (mk M T) (fun r h => ((a ≤ v ∧ v ≤ b) ∧ r = some (.int 1) ∧ h = mk M T) ∨ (¬ (a ≤ v ∧ v ≤ b) ∧ r = some (.int 0) ∧ h = mk M T)) := by
  refine R_if 3 (c := v < a) (t := 14) (f := 5) (L' := [some (.int v), some (.int a), some (.int b)]) (st' := []) (h' := mk M T) (fun _ => rfl) (fun h1 => ?_) (fun h1 => ?_)
  · refine R_ret 2 (pcr := 15) (v := some (.int 0)) (h' := mk M T) (fun _ => rfl) ?_
    exact Or.inr ⟨fun q => absurd q.1 (k2_nle h1), rfl, rfl⟩
  · refine R_if 3 (c := b < v) (t := 14) (f := 10) (L' := [some (.int v), some (.int a), some (.int b)]) (st' := []) (h' := mk M T) (fun _ => rfl) (fun h2 => ?_) (fun h2 => ?_)
    · refine R_ret 2 (pcr := 15) (v := some (.int 0)) (h' := mk M T) (fun _ => rfl) ?_
      exact Or.inr ⟨fun q => absurd q.2 (k2_nle h2), rfl, rfl⟩
    · refine R_ret 3 (pcr := 15) (v := some (.int 1)) (h' := mk M T) (fun _ => rfl) ?_
      exact Or.inl ⟨⟨k2_le h1, k2_le h2⟩, rfl, rfl⟩
def heldY (v a b : Int32) : Int32 := if v < a then a else if b < v then b else v
set_option maxRecDepth 100000 in
set_option maxHeartbeats 4000000 in
theorem m_held {ro : xRO} {d : Nat} {M : xM} {T : Nat} {v a b : Int32} : Rn ro d M_X8_held 0 [some (.int v), some (.int a), some (.int b)] [] (mk M T) (fun r h => r = some (.int (heldY v a b)) ∧ h = mk M T) := by
  refine R_if 3 (c := a ≤ v) (t := 9) (f := 5) (L' := [some (.int v), some (.int a), some (.int b)]) (st' := []) (h' := mk M T) (fun _ => rfl) (fun h1 => ?_) (fun h1 => ?_)
  · refine R_if 3 (c := v ≤ b) (t := 18) (f := 14) (L' := [some (.int v), some (.int a), some (.int b)]) (st' := []) (h' := mk M T) (fun _ => rfl) (fun h2 => ?_) (fun h2 => ?_)
    · refine R_ret 2 (pcr := 19) (v := some (.int v)) (h' := mk M T) (fun _ => rfl) ?_
      exact ⟨by unfold heldY; grind, rfl⟩
    · refine R_ret 3 (pcr := 19) (v := some (.int b)) (h' := mk M T) (fun _ => rfl) ?_
      exact ⟨by unfold heldY; grind, rfl⟩
  · refine R_ret 3 (pcr := 19) (v := some (.int a)) (h' := mk M T) (fun _ => rfl) ?_
    exact ⟨by unfold heldY; grind, rfl⟩
theorem heldY_X {v a b : Int32} (h : a ≤ b) : heldY v a b = heldX v a b := by
  unfold heldX heldY
  grind
theorem heldY_nI {v a b : Nat} (hv : v < 2 ^ 31) (ha : a < 2 ^ 31) (hb : b < 2 ^ 31) : heldY (nI v) (nI a) (nI b) = nI (if v < a then a else if b < v then b else v) := by
  unfold heldY
  by_cases h1 : v < a
  · rw [if_pos h1, if_pos ((nI_ltI hv ha).mpr h1)]
  · rw [if_neg h1, if_neg (fun q => h1 ((nI_ltI hv ha).mp q))]
    by_cases h2 : b < v
    · rw [if_pos h2, if_pos ((nI_ltI hb hv).mpr h2)]
    · rw [if_neg h2, if_neg (fun q => h2 ((nI_ltI hb hv).mp q))]
/-- held, of a difference -/
theorem heldY_sub {a b c : Nat} (ha : a ≤ c) (hb : b < 2 ^ 30) (hc : c < 2 ^ 30) : heldY (nI a - nI b) 0 (nI c) = nI (a - b) := by
  unfold heldY
  rcases Nat.lt_or_ge a b with h | h
  · rw [if_pos (pk_sneg hb h), show a - b = 0 by omega]
    rfl
  · rw [pk_sub h, if_neg (nI_pos (by omega)), if_neg (fun q => by have := (nI_ltI (by omega) (by omega)).mp q; omega)]
set_option maxRecDepth 100000 in
set_option maxHeartbeats 4000000 in
theorem m_error_1 {ro : xRO} {d : Nat} {M : xM} {T : Nat}  : Rn ro d M_X8_error 0 [some (.ref 64), some (.int (-1000000001))] [] (mk M T) (fun r h => r = some (.int (-1000000001)) ∧ h = mk (up M 64 1 (M 64 1 + 1)) T) := by
  refine R_ret 12 (pcr := 14) (v := some (.int (-1000000001))) (h' := mk (up M 64 1 ((M 64 1) + 1)) T) (fun _ => rfl) ?_
  exact ⟨rfl, rfl⟩
set_option maxRecDepth 100000 in
set_option maxHeartbeats 4000000 in
theorem m_error_2 {ro : xRO} {d : Nat} {M : xM} {T : Nat}  : Rn ro d M_X8_error 0 [some (.ref 64), some (.int (-1000000002))] [] (mk M T) (fun r h => r = some (.int (-1000000002)) ∧ h = mk (up M 64 2 (M 64 2 + 1)) T) := by
  refine R_ret 12 (pcr := 14) (v := some (.int (-1000000002))) (h' := mk (up M 64 2 ((M 64 2) + 1)) T) (fun _ => rfl) ?_
  exact ⟨rfl, rfl⟩
set_option maxRecDepth 100000 in
set_option maxHeartbeats 4000000 in
theorem m_error_3 {ro : xRO} {d : Nat} {M : xM} {T : Nat}  : Rn ro d M_X8_error 0 [some (.ref 64), some (.int (-1000000003))] [] (mk M T) (fun r h => r = some (.int (-1000000003)) ∧ h = mk (up M 64 3 (M 64 3 + 1)) T) := by
  refine R_ret 12 (pcr := 14) (v := some (.int (-1000000003))) (h' := mk (up M 64 3 ((M 64 3) + 1)) T) (fun _ => rfl) ?_
  exact ⟨rfl, rfl⟩
set_option maxRecDepth 100000 in
set_option maxHeartbeats 4000000 in
theorem m_error_4 {ro : xRO} {d : Nat} {M : xM} {T : Nat}  : Rn ro d M_X8_error 0 [some (.ref 64), some (.int (-1000000004))] [] (mk M T) (fun r h => r = some (.int (-1000000004)) ∧ h = mk (up M 64 4 (M 64 4 + 1)) T) := by
  refine R_ret 12 (pcr := 14) (v := some (.int (-1000000004))) (h' := mk (up M 64 4 ((M 64 4) + 1)) T) (fun _ => rfl) ?_
  exact ⟨rfl, rfl⟩
set_option maxRecDepth 100000 in
set_option maxHeartbeats 4000000 in
theorem m_error_5 {ro : xRO} {d : Nat} {M : xM} {T : Nat}  : Rn ro d M_X8_error 0 [some (.ref 64), some (.int (-1000000005))] [] (mk M T) (fun r h => r = some (.int (-1000000005)) ∧ h = mk (up M 64 5 (M 64 5 + 1)) T) := by
  refine R_ret 12 (pcr := 14) (v := some (.int (-1000000005))) (h' := mk (up M 64 5 ((M 64 5) + 1)) T) (fun _ => rfl) ?_
  exact ⟨rfl, rfl⟩
set_option maxRecDepth 100000 in
set_option maxHeartbeats 4000000 in
theorem m_error_6 {ro : xRO} {d : Nat} {M : xM} {T : Nat}  : Rn ro d M_X8_error 0 [some (.ref 64), some (.int (-1000000006))] [] (mk M T) (fun r h => r = some (.int (-1000000006)) ∧ h = mk (up M 64 6 (M 64 6 + 1)) T) := by
  refine R_ret 12 (pcr := 14) (v := some (.int (-1000000006))) (h' := mk (up M 64 6 ((M 64 6) + 1)) T) (fun _ => rfl) ?_
  exact ⟨rfl, rfl⟩
theorem in_lt {i : Int32} {n : Nat} (hn : n < 2 ^ 30) : (0 ≤ i ∧ i ≤ nI n - 1) ↔ (0 ≤ i ∧ i < nI n) := by
  cases n with
  | zero => constructor <;> intro h <;> exact absurd (show i < 0 from by first | exact h.2 | (have := h.2; rw [show nI 0 - 1 = (-1 : Int32) from rfl] at this; exact Int32.lt_of_le_of_lt this (by decide))) (by grind)
  | succ n =>
    rw [nI_pred]
    constructor
    · intro h
      exact ⟨h.1, by have := h.2; rcases nI_of (x := i) (by grind) with ⟨j, j1, rfl⟩; exact nI_lt (by have := (nI_leI (by omega) (by omega)).mp this; omega) (by omega)⟩
    · intro h
      exact ⟨h.1, by have := h.2; rcases nI_of (x := i) (by grind) with ⟨j, j1, rfl⟩; exact nI_le (by have := (nI_ltI (by omega) (by omega)).mp this; omega) (by omega)⟩
set_option maxRecDepth 100000 in
set_option maxHeartbeats 4000000 in
theorem m_isPane {ro : xRO} {d : Nat} {M : xM} {T : Nat} {P : Nat} (hP : M 62 6 = nI P) (hP8 : P ≤ 8) {i : Int32} : Rn ro (d + 1) M_X8_isPane 0 [some (.ref 64), some (.int i)] [] (mk M T) (fun r h => ((0 ≤ i ∧ i < nI P) ∧ r = some (.int 1) ∧ h = mk M T) ∨ (¬ (0 ≤ i ∧ i < nI P) ∧ r = some (.int 0) ∧ h = mk M T)) := by
  refine R_go 6 (pc' := 9) (L' := [some (.ref 64), some (.int i)]) (st' := [.int (M 62 6), .int 0, .int i]) (h' := mk M T) (fun _ => rfl) ?_
  refine R_top (y := nI P) (hP) ?_
  refine R_go 2 (pc' := 11) (L' := [some (.ref 64), some (.int i)]) (st' := [.int ((nI P) - 1), .int 0, .int i]) (h' := mk M T) (fun _ => rfl) ?_
  refine R_call2 (i := .invokestatic 53) (kd := 1) (y := M_X8_in) (as := [.int i, .int 0, .int ((nI P) - 1)]) (r := []) (L0 := [some (.int i), some (.int 0), some (.int ((nI P) - 1))]) (v1 := some (.int 1)) (v2 := some (.int 0)) (h1' := mk M T) (h2' := mk M T) (pc' := 14) (st1 := [.int 1]) (st2 := [.int 0]) rfl rfl rfl rfl rfl rfl (m_in) (fun h1 => ?_) (fun h1 => ?_)
  · refine R_ret 1 (pcr := 14) (v := some (.int 1)) (h' := mk M T) (fun _ => rfl) ?_
    exact Or.inl ⟨(in_lt (by omega)).mp h1, rfl, rfl⟩
  · refine R_ret 1 (pcr := 14) (v := some (.int 0)) (h' := mk M T) (fun _ => rfl) ?_
    exact Or.inr ⟨fun q => h1 ((in_lt (by omega)).mpr q), rfl, rfl⟩
set_option maxRecDepth 100000 in
set_option maxHeartbeats 4000000 in
theorem m_isHeir {ro : xRO} {d : Nat} {M : xM} {T : Nat} {H : Nat} (hH : M 62 7 = nI H) (hH6 : H ≤ 6) {i : Int32} : Rn ro (d + 1) M_X8_isHeir 0 [some (.ref 64), some (.int i)] [] (mk M T) (fun r h => ((0 ≤ i ∧ i < nI H) ∧ r = some (.int 1) ∧ h = mk M T) ∨ (¬ (0 ≤ i ∧ i < nI H) ∧ r = some (.int 0) ∧ h = mk M T)) := by
  refine R_go 6 (pc' := 9) (L' := [some (.ref 64), some (.int i)]) (st' := [.int (M 62 7), .int 0, .int i]) (h' := mk M T) (fun _ => rfl) ?_
  refine R_top (y := nI H) (hH) ?_
  refine R_go 2 (pc' := 11) (L' := [some (.ref 64), some (.int i)]) (st' := [.int ((nI H) - 1), .int 0, .int i]) (h' := mk M T) (fun _ => rfl) ?_
  refine R_call2 (i := .invokestatic 53) (kd := 1) (y := M_X8_in) (as := [.int i, .int 0, .int ((nI H) - 1)]) (r := []) (L0 := [some (.int i), some (.int 0), some (.int ((nI H) - 1))]) (v1 := some (.int 1)) (v2 := some (.int 0)) (h1' := mk M T) (h2' := mk M T) (pc' := 14) (st1 := [.int 1]) (st2 := [.int 0]) rfl rfl rfl rfl rfl rfl (m_in) (fun h1 => ?_) (fun h1 => ?_)
  · refine R_ret 1 (pcr := 14) (v := some (.int 1)) (h' := mk M T) (fun _ => rfl) ?_
    exact Or.inl ⟨(in_lt (by omega)).mp h1, rfl, rfl⟩
  · refine R_ret 1 (pcr := 14) (v := some (.int 0)) (h' := mk M T) (fun _ => rfl) ?_
    exact Or.inr ⟨fun q => h1 ((in_lt (by omega)).mpr q), rfl, rfl⟩
set_option maxRecDepth 100000 in
set_option maxHeartbeats 4000000 in
theorem m_becomes {ro : xRO} {d : Nat} {M : xM} {T : Nat} {j : Nat} (hj : j < 398) {v : Int32} : Rn ro d M_X8_becomes 0 [some (.ref 64), some (.int (nI j)), some (.int v), none] [] (mk M T) (fun r h => r = some (.int (M 62 j)) ∧ h = mk (up M 62 j v) T) := by
  refine R_go 3 (pc' := 5) (L' := [some (.ref 64), some (.int (nI j)), some (.int v), none]) (st' := [.int (nI j), .ref 65]) (h' := mk M T) (fun _ => rfl) ?_
  refine R_iald (c := 62) (n := 398) (j := j) rfl rfl (by omega) (by decide) ?_
  refine R_go 5 (pc' := 13) (L' := [some (.ref 64), some (.int (nI j)), some (.int v), some (.int (M 62 j))]) (st' := [.int v, .int (nI j), .ref 65]) (h' := mk M T) (fun _ => rfl) ?_
  refine R_iast (c := 62) (n := 398) (j := j) rfl rfl (by omega) (by decide) ?_
  refine R_ret 2 (pcr := 15) (v := some (.int (M 62 j))) (h' := mk (up M 62 j v) T) (fun _ => rfl) ?_
  exact ⟨rfl, rfl⟩
set_option maxRecDepth 100000 in
set_option maxHeartbeats 4000000 in
theorem m_of {ro : xRO} {d : Nat} {M : xM} {T : Nat} {p j : Nat} (hp : p < 8) (hj : j < 7) : Rn ro d M_X8_of 0 [some (.ref 64), some (.int (nI p)), some (.int (nI j))] [] (mk M T) (fun r h => r = some (.int (M 62 (10 + 7 * p + j))) ∧ h = mk M T) := by
  refine R_go 6 (pc' := 10) (L' := [some (.ref 64), some (.int (nI p)), some (.int (nI j))]) (st' := [.int (7 * nI p), .int 10, .ref 65]) (h' := mk M T) (fun _ => rfl) ?_
  refine R_top (pk_mul 7 p) ?_
  refine R_go 1 (pc' := 11) (L' := [some (.ref 64), some (.int (nI p)), some (.int (nI j))]) (st' := [.int (10 + nI (7 * p)), .ref 65]) (h' := mk M T) (fun _ => rfl) ?_
  refine R_top (nI_add 10 (7 * p)) ?_
  refine R_go 2 (pc' := 13) (L' := [some (.ref 64), some (.int (nI p)), some (.int (nI j))]) (st' := [.int (nI (10 + (7 * p)) + nI j), .ref 65]) (h' := mk M T) (fun _ => rfl) ?_
  refine R_top (nI_add (10 + (7 * p)) j) ?_
  refine R_iald (c := 62) (n := 398) (j := (10 + (7 * p)) + j) rfl rfl (by omega) (by decide) ?_
  refine R_ret 1 (pcr := 14) (v := some (.int (M 62 ((10 + (7 * p)) + j)))) (h' := mk M T) (fun _ => rfl) ?_
  exact ⟨rfl, rfl⟩
def rpF (M : xM) (p kd m fc cl : Nat) : Prop := M 62 (10 + 7 * p + 0) = nI kd ∧ M 62 (10 + 7 * p + 1) = nI m ∧ M 62 (10 + 7 * p + 2) = nI fc ∧ M 62 (10 + 7 * p + 3) = nI cl ∧ kd < 7 ∧ m < 10 ∧ fc < 4 ∧ cl < 10
set_option maxRecDepth 100000 in
set_option maxHeartbeats 4000000 in
theorem m_strokesOf {ro : xRO} {d : Nat} {M : xM} {T : Nat} {p kd m fc cl : Nat} (hp : p < 8) (hF : rpF M p kd m fc cl) {cold lamp : Nat} (hc : M 62 0 = nI cold) (hl : M 62 2 = nI lamp) (c1 : cold ≤ 40) (l1 : lamp ≤ 1) : Rn ro (d + 1) M_X8_strokesOf 0 [some (.ref 64), some (.int (nI p)), none, none, none, none] [] (mk M T) (fun r h => r = some (.int (nI (strN kd m cl cold lamp))) ∧ h = mk M T) := by
  obtain ⟨-, -, -, -, b1, b2, b3, b4⟩ := id hF
  refine R_go 4 (pc' := 6) (L' := [some (.ref 64), some (.int (nI p)), none, none, none, none]) (st' := [.int (M 62 0)]) (h' := mk M T) (fun _ => rfl) ?_
  refine R_top (y := nI cold) (hc) ?_
  refine R_go 4 (pc' := 10) (L' := [some (.ref 64), some (.int (nI p)), some (.int (nI cold)), none, none, none]) (st' := [.int 1, .int (nI p), .ref 64]) (h' := mk M T) (fun _ => rfl) ?_
  refine R_callD (i := .invokevirtual 57) (kd := 0) (y := M_X8_of) (as := [.ref 64, .int (nI p), .int 1]) (r := []) (L0 := [some (.ref 64), some (.int (nI p)), some (.int 1)]) (v := some (.int (M 62 (10 + 7 * p + 1)))) (h' := mk M T) (pc' := 13) (st' := [.int (M 62 (10 + 7 * p + 1))]) rfl rfl rfl rfl rfl rfl (m_of (p := p) (j := 1) hp (by omega)) ?_
  refine R_top (hF.2.1) ?_
  refine R_go 4 (pc' := 17) (L' := [some (.ref 64), some (.int (nI p)), some (.int (nI cold)), some (.int (nI m)), none, none]) (st' := [.int ((nI cold) / 4)]) (h' := mk M T) (fun _ => rfl) ?_
  refine R_top (pk_div (a := cold) (d := 4) (by omega) (by omega) (by omega)) ?_
  refine R_go 3 (pc' := 20) (L' := [some (.ref 64), some (.int (nI p)), some (.int (nI cold)), some (.int (nI m)), none, none]) (st' := [.int 3, .int (nI p), .ref 64, .int (nI (cold / 4))]) (h' := mk M T) (fun _ => rfl) ?_
  refine R_callD (i := .invokevirtual 57) (kd := 0) (y := M_X8_of) (as := [.ref 64, .int (nI p), .int 3]) (r := [.int (nI (cold / 4))]) (L0 := [some (.ref 64), some (.int (nI p)), some (.int 3)]) (v := some (.int (M 62 (10 + 7 * p + 3)))) (h' := mk M T) (pc' := 23) (st' := [.int (M 62 (10 + 7 * p + 3)), .int (nI (cold / 4))]) rfl rfl rfl rfl rfl rfl (m_of (p := p) (j := 3) hp (by omega)) ?_
  refine R_top (hF.2.2.2.1) ?_
  refine R_go 2 (pc' := 25) (L' := [some (.ref 64), some (.int (nI p)), some (.int (nI cold)), some (.int (nI m)), none, none]) (st' := [.int ((nI cl) / 3), .int (nI (cold / 4))]) (h' := mk M T) (fun _ => rfl) ?_
  refine R_top (pk_div (a := cl) (d := 3) (by omega) (by omega) (by omega)) ?_
  refine R_go 1 (pc' := 26) (L' := [some (.ref 64), some (.int (nI p)), some (.int (nI cold)), some (.int (nI m)), none, none]) (st' := [.int (nI (cold / 4) + nI (cl / 3))]) (h' := mk M T) (fun _ => rfl) ?_
  refine R_top (nI_add (cold / 4) (cl / 3)) ?_
  refine R_if 4 (c := (nI ((cold / 4) + (cl / 3))) ≤ (nI m)) (t := 41) (f := 34) (L' := [some (.ref 64), some (.int (nI p)), some (.int (nI cold)), some (.int (nI m)), some (.int (nI ((cold / 4) + (cl / 3)))), none]) (st' := []) (h' := mk M T) (fun _ => rfl) (fun h1 => ?_) (fun h1 => ?_)
  · replace h1 : ((cold / 4) + (cl / 3)) ≤ m := (nI_leI (a := (cold / 4) + (cl / 3)) (b := m) (by omega) (by omega)).mp h1
    refine R_go 5 (pc' := 47) (L' := [some (.ref 64), some (.int (nI p)), some (.int (nI cold)), some (.int (nI m)), some (.int (nI ((cold / 4) + (cl / 3)))), some (.int 0)]) (st' := [.int 0, .int (nI p), .ref 64]) (h' := mk M T) (fun _ => rfl) ?_
    refine R_callD (i := .invokevirtual 57) (kd := 0) (y := M_X8_of) (as := [.ref 64, .int (nI p), .int 0]) (r := []) (L0 := [some (.ref 64), some (.int (nI p)), some (.int 0)]) (v := some (.int (M 62 (10 + 7 * p + 0)))) (h' := mk M T) (pc' := 50) (st' := [.int (M 62 (10 + 7 * p + 0))]) rfl rfl rfl rfl rfl rfl (m_of (p := p) (j := 0) hp (by omega)) ?_
    refine R_top (hF.1) ?_
    by_cases h2 : kd = 1
    · subst h2
      refine R_top (y := 1) rfl ?_
      refine R_go 4 (pc' := 92) (L' := [some (.ref 64), some (.int (nI p)), some (.int (nI cold)), some (.int (nI m)), some (.int (nI ((cold / 4) + (cl / 3)))), some (.int 0)]) (st' := [.int ((nI ((cold / 4) + (cl / 3))) / 2)]) (h' := mk M T) (fun _ => rfl) ?_
      refine R_top (pk_div (a := (cold / 4) + (cl / 3)) (d := 2) (by omega) (by omega) (by omega)) ?_
      refine R_ret 1 (pcr := 92) (v := some (.int (nI (((cold / 4) + (cl / 3)) / 2)))) (h' := mk M T) (fun _ => rfl) ?_
      exact ⟨congrArg (fun z => some (Value.int (nI z))) (a₁ := ((cold / 4) + (cl / 3)) / 2) (by simp only [strN]; first | done | omega | ((repeat' split) <;> omega)), rfl⟩
    by_cases h3 : kd = 2
    · subst h3
      refine R_top (y := 2) rfl ?_
      refine R_ret 3 (pcr := 95) (v := some (.int 0)) (h' := mk M T) (fun _ => rfl) ?_
      exact ⟨congrArg (fun z => some (Value.int (nI z))) (a₁ := 0) (by simp only [strN]; first | done | omega | ((repeat' split) <;> omega)), rfl⟩
    by_cases h4 : kd = 3
    · subst h4
      refine R_top (y := 3) rfl ?_
      refine R_if 4 (c := 12 ≤ (nI cold)) (t := 106) (f := 102) (L' := [some (.ref 64), some (.int (nI p)), some (.int (nI cold)), some (.int (nI m)), some (.int (nI ((cold / 4) + (cl / 3)))), some (.int 0)]) (st' := []) (h' := mk M T) (fun _ => rfl) (fun h5 => ?_) (fun h5 => ?_)
      · replace h5 : 12 ≤ cold := (nI_leI (a := 12) (b := cold) (by omega) (by omega)).mp h5
        refine R_go 3 (pc' := 110) (L' := [some (.ref 64), some (.int (nI p)), some (.int (nI cold)), some (.int (nI m)), some (.int (nI ((cold / 4) + (cl / 3)))), some (.int 0)]) (st' := [.int ((nI ((cold / 4) + (cl / 3))) / 3)]) (h' := mk M T) (fun _ => rfl) ?_
        refine R_top (pk_div (a := (cold / 4) + (cl / 3)) (d := 3) (by omega) (by omega) (by omega)) ?_
        refine R_ret 1 (pcr := 110) (v := some (.int (nI (((cold / 4) + (cl / 3)) / 3)))) (h' := mk M T) (fun _ => rfl) ?_
        exact ⟨congrArg (fun z => some (Value.int (nI z))) (a₁ := ((cold / 4) + (cl / 3)) / 3) (by simp only [strN]; first | done | omega | ((repeat' split) <;> omega)), rfl⟩
      · replace h5 : ¬ 12 ≤ cold := fun q => h5 ((nI_leI (a := 12) (b := cold) (by omega) (by omega)).mpr q)
        refine R_ret 3 (pcr := 110) (v := some (.int 0)) (h' := mk M T) (fun _ => rfl) ?_
        exact ⟨congrArg (fun z => some (Value.int (nI z))) (a₁ := 0) (by simp only [strN]; first | done | omega | ((repeat' split) <;> omega)), rfl⟩
    by_cases h6 : kd = 4
    · subst h6
      refine R_top (y := 4) rfl ?_
      refine R_go 4 (pc' := 115) (L' := [some (.ref 64), some (.int (nI p)), some (.int (nI cold)), some (.int (nI m)), some (.int (nI ((cold / 4) + (cl / 3)))), some (.int 0)]) (st' := [.int ((nI ((cold / 4) + (cl / 3))) / 2)]) (h' := mk M T) (fun _ => rfl) ?_
      refine R_top (pk_div (a := (cold / 4) + (cl / 3)) (d := 2) (by omega) (by omega) (by omega)) ?_
      refine R_go 3 (pc' := 118) (L' := [some (.ref 64), some (.int (nI p)), some (.int (nI cold)), some (.int (nI m)), some (.int (nI ((cold / 4) + (cl / 3)))), some (.int 0)]) (st' := [.int ((nI m) - (nI m) / 4 * 4), .int (nI (((cold / 4) + (cl / 3)) / 2))]) (h' := mk M T) (fun _ => rfl) ?_
      refine R_top (pk_rem (a := m) (d := 4) (by omega) (by omega) (by omega)) ?_
      refine R_go 1 (pc' := 120) (L' := [some (.ref 64), some (.int (nI p)), some (.int (nI cold)), some (.int (nI m)), some (.int (nI ((cold / 4) + (cl / 3)))), some (.int 0)]) (st' := [.int 99, .int (nI (m % 4)), .int (nI (((cold / 4) + (cl / 3)) / 2))]) (h' := mk M T) (fun _ => rfl) ?_
      refine R_callD (i := .invokestatic 61) (kd := 1) (y := M_X8_held) (as := [.int (nI (((cold / 4) + (cl / 3)) / 2)), .int (nI (m % 4)), .int 99]) (r := []) (L0 := [some (.int (nI (((cold / 4) + (cl / 3)) / 2))), some (.int (nI (m % 4))), some (.int 99)]) (v := some (.int (heldY (nI (((cold / 4) + (cl / 3)) / 2)) (nI (m % 4)) 99))) (h' := mk M T) (pc' := 123) (st' := [.int (heldY (nI (((cold / 4) + (cl / 3)) / 2)) (nI (m % 4)) 99)]) rfl rfl rfl rfl rfl rfl (m_held) ?_
      refine R_top (heldY_nI (v := ((cold / 4) + (cl / 3)) / 2) (a := m % 4) (b := 99) (by omega) (by omega) (by omega)) ?_
      refine R_ret 1 (pcr := 123) (v := some (.int (nI (if (((cold / 4) + (cl / 3)) / 2) < (m % 4) then (m % 4) else if 99 < (((cold / 4) + (cl / 3)) / 2) then 99 else (((cold / 4) + (cl / 3)) / 2))))) (h' := mk M T) (fun _ => rfl) ?_
      exact ⟨congrArg (fun z => some (Value.int (nI z))) (a₁ := if (((cold / 4) + (cl / 3)) / 2) < (m % 4) then (m % 4) else if 99 < (((cold / 4) + (cl / 3)) / 2) then 99 else (((cold / 4) + (cl / 3)) / 2)) (by simp only [strN]; first | done | omega | ((repeat' split) <;> omega)), rfl⟩
    by_cases h7 : kd = 5
    · subst h7
      refine R_top (y := 5) rfl ?_
      refine R_go 5 (pc' := 130) (L' := [some (.ref 64), some (.int (nI p)), some (.int (nI cold)), some (.int (nI m)), some (.int (nI ((cold / 4) + (cl / 3)))), some (.int 0)]) (st' := [.int (M 62 2)]) (h' := mk M T) (fun _ => rfl) ?_
      refine R_top (y := nI lamp) (hl) ?_
      refine R_ifn 2 (c := (nI lamp) = 1) (t := 138) (f := 134) (L' := [some (.ref 64), some (.int (nI p)), some (.int (nI cold)), some (.int (nI m)), some (.int (nI ((cold / 4) + (cl / 3)))), some (.int 0)]) (st' := []) (h' := mk M T) (fun _ => rfl) (fun h8 => ?_) (fun h8 => ?_)
      · replace h8 : ¬ lamp = 1 := fun q => h8 ((nI_eq (a := lamp) (b := 1) (by omega) (by omega)).mpr q)
        refine R_ret 2 (pcr := 140) (v := some (.int 0)) (h' := mk M T) (fun _ => rfl) ?_
        exact ⟨congrArg (fun z => some (Value.int (nI z))) (a₁ := 0) (by simp only [strN]; first | done | omega | ((repeat' split) <;> omega)), rfl⟩
      · replace h8 : lamp = 1 := (nI_eq (a := lamp) (b := 1) (by omega) (by omega)).mp h8
        refine R_ret 3 (pcr := 140) (v := some (.int 0)) (h' := mk M T) (fun _ => rfl) ?_
        exact ⟨congrArg (fun z => some (Value.int (nI z))) (a₁ := 0) (by simp only [strN]; first | done | omega | ((repeat' split) <;> omega)), rfl⟩
    by_cases h9 : kd = 6
    · subst h9
      refine R_top (y := 6) rfl ?_
      refine R_go 5 (pc' := 146) (L' := [some (.ref 64), some (.int (nI p)), some (.int (nI cold)), some (.int (nI m)), some (.int (nI ((cold / 4) + (cl / 3)))), some (.int 0)]) (st' := [.int ((nI cold) - (nI cold) / 3 * 3), .int (nI ((cold / 4) + (cl / 3)))]) (h' := mk M T) (fun _ => rfl) ?_
      refine R_top (pk_rem (a := cold) (d := 3) (by omega) (by omega) (by omega)) ?_
      refine R_go 1 (pc' := 147) (L' := [some (.ref 64), some (.int (nI p)), some (.int (nI cold)), some (.int (nI m)), some (.int (nI ((cold / 4) + (cl / 3)))), some (.int 0)]) (st' := [.int (nI ((cold / 4) + (cl / 3)) + nI (cold % 3))]) (h' := mk M T) (fun _ => rfl) ?_
      refine R_top (nI_add ((cold / 4) + (cl / 3)) (cold % 3)) ?_
      refine R_ret 1 (pcr := 147) (v := some (.int (nI (((cold / 4) + (cl / 3)) + (cold % 3))))) (h' := mk M T) (fun _ => rfl) ?_
      exact ⟨congrArg (fun z => some (Value.int (nI z))) (a₁ := ((cold / 4) + (cl / 3)) + (cold % 3)) (by simp only [strN]; first | done | omega | ((repeat' split) <;> omega)), rfl⟩
    refine R_tswd (t := 148) rfl (by rw [nI_toInt (by omega)]; omega) rfl ?_
    refine R_ret 2 (pcr := 150) (v := some (.int (nI ((cold / 4) + (cl / 3))))) (h' := mk M T) (fun _ => rfl) ?_
    exact ⟨congrArg (fun z => some (Value.int (nI z))) (a₁ := (cold / 4) + (cl / 3)) (by simp only [strN]; first | done | omega | ((repeat' split) <;> omega)), rfl⟩
  · replace h1 : ¬ ((cold / 4) + (cl / 3)) ≤ m := fun q => h1 ((nI_leI (a := (cold / 4) + (cl / 3)) (b := m) (by omega) (by omega)).mpr q)
    refine R_go 8 (pc' := 47) (L' := [some (.ref 64), some (.int (nI p)), some (.int (nI cold)), some (.int (nI m)), some (.int (nI ((cold / 4) + (cl / 3)))), some (.int ((nI ((cold / 4) + (cl / 3))) - (nI m)))]) (st' := [.int 0, .int (nI p), .ref 64]) (h' := mk M T) (fun _ => rfl) ?_
    refine R_callD (i := .invokevirtual 57) (kd := 0) (y := M_X8_of) (as := [.ref 64, .int (nI p), .int 0]) (r := []) (L0 := [some (.ref 64), some (.int (nI p)), some (.int 0)]) (v := some (.int (M 62 (10 + 7 * p + 0)))) (h' := mk M T) (pc' := 50) (st' := [.int (M 62 (10 + 7 * p + 0))]) rfl rfl rfl rfl rfl rfl (m_of (p := p) (j := 0) hp (by omega)) ?_
    refine R_top (hF.1) ?_
    by_cases h10 : kd = 1
    · subst h10
      refine R_top (y := 1) rfl ?_
      refine R_go 4 (pc' := 92) (L' := [some (.ref 64), some (.int (nI p)), some (.int (nI cold)), some (.int (nI m)), some (.int (nI ((cold / 4) + (cl / 3)))), some (.int ((nI ((cold / 4) + (cl / 3))) - (nI m)))]) (st' := [.int ((nI ((cold / 4) + (cl / 3))) / 2)]) (h' := mk M T) (fun _ => rfl) ?_
      refine R_top (pk_div (a := (cold / 4) + (cl / 3)) (d := 2) (by omega) (by omega) (by omega)) ?_
      refine R_ret 1 (pcr := 92) (v := some (.int (nI (((cold / 4) + (cl / 3)) / 2)))) (h' := mk M T) (fun _ => rfl) ?_
      exact ⟨congrArg (fun z => some (Value.int (nI z))) (a₁ := ((cold / 4) + (cl / 3)) / 2) (by simp only [strN]; first | done | omega | ((repeat' split) <;> omega)), rfl⟩
    by_cases h11 : kd = 2
    · subst h11
      refine R_top (y := 2) rfl ?_
      refine R_ret 3 (pcr := 95) (v := some (.int ((nI ((cold / 4) + (cl / 3))) - (nI m)))) (h' := mk M T) (fun _ => rfl) ?_
      exact ⟨by rw [pk_sub (by omega)]; exact congrArg (fun z => some (Value.int (nI z))) (by simp only [strN]; first | done | omega | ((repeat' split) <;> omega)), rfl⟩
    by_cases h12 : kd = 3
    · subst h12
      refine R_top (y := 3) rfl ?_
      refine R_if 4 (c := 12 ≤ (nI cold)) (t := 106) (f := 102) (L' := [some (.ref 64), some (.int (nI p)), some (.int (nI cold)), some (.int (nI m)), some (.int (nI ((cold / 4) + (cl / 3)))), some (.int ((nI ((cold / 4) + (cl / 3))) - (nI m)))]) (st' := []) (h' := mk M T) (fun _ => rfl) (fun h13 => ?_) (fun h13 => ?_)
      · replace h13 : 12 ≤ cold := (nI_leI (a := 12) (b := cold) (by omega) (by omega)).mp h13
        refine R_go 3 (pc' := 110) (L' := [some (.ref 64), some (.int (nI p)), some (.int (nI cold)), some (.int (nI m)), some (.int (nI ((cold / 4) + (cl / 3)))), some (.int ((nI ((cold / 4) + (cl / 3))) - (nI m)))]) (st' := [.int ((nI ((cold / 4) + (cl / 3))) / 3)]) (h' := mk M T) (fun _ => rfl) ?_
        refine R_top (pk_div (a := (cold / 4) + (cl / 3)) (d := 3) (by omega) (by omega) (by omega)) ?_
        refine R_ret 1 (pcr := 110) (v := some (.int (nI (((cold / 4) + (cl / 3)) / 3)))) (h' := mk M T) (fun _ => rfl) ?_
        exact ⟨congrArg (fun z => some (Value.int (nI z))) (a₁ := ((cold / 4) + (cl / 3)) / 3) (by simp only [strN]; first | done | omega | ((repeat' split) <;> omega)), rfl⟩
      · replace h13 : ¬ 12 ≤ cold := fun q => h13 ((nI_leI (a := 12) (b := cold) (by omega) (by omega)).mpr q)
        refine R_ret 3 (pcr := 110) (v := some (.int 0)) (h' := mk M T) (fun _ => rfl) ?_
        exact ⟨congrArg (fun z => some (Value.int (nI z))) (a₁ := 0) (by simp only [strN]; first | done | omega | ((repeat' split) <;> omega)), rfl⟩
    by_cases h14 : kd = 4
    · subst h14
      refine R_top (y := 4) rfl ?_
      refine R_go 4 (pc' := 115) (L' := [some (.ref 64), some (.int (nI p)), some (.int (nI cold)), some (.int (nI m)), some (.int (nI ((cold / 4) + (cl / 3)))), some (.int ((nI ((cold / 4) + (cl / 3))) - (nI m)))]) (st' := [.int ((nI ((cold / 4) + (cl / 3))) / 2)]) (h' := mk M T) (fun _ => rfl) ?_
      refine R_top (pk_div (a := (cold / 4) + (cl / 3)) (d := 2) (by omega) (by omega) (by omega)) ?_
      refine R_go 3 (pc' := 118) (L' := [some (.ref 64), some (.int (nI p)), some (.int (nI cold)), some (.int (nI m)), some (.int (nI ((cold / 4) + (cl / 3)))), some (.int ((nI ((cold / 4) + (cl / 3))) - (nI m)))]) (st' := [.int ((nI m) - (nI m) / 4 * 4), .int (nI (((cold / 4) + (cl / 3)) / 2))]) (h' := mk M T) (fun _ => rfl) ?_
      refine R_top (pk_rem (a := m) (d := 4) (by omega) (by omega) (by omega)) ?_
      refine R_go 1 (pc' := 120) (L' := [some (.ref 64), some (.int (nI p)), some (.int (nI cold)), some (.int (nI m)), some (.int (nI ((cold / 4) + (cl / 3)))), some (.int ((nI ((cold / 4) + (cl / 3))) - (nI m)))]) (st' := [.int 99, .int (nI (m % 4)), .int (nI (((cold / 4) + (cl / 3)) / 2))]) (h' := mk M T) (fun _ => rfl) ?_
      refine R_callD (i := .invokestatic 61) (kd := 1) (y := M_X8_held) (as := [.int (nI (((cold / 4) + (cl / 3)) / 2)), .int (nI (m % 4)), .int 99]) (r := []) (L0 := [some (.int (nI (((cold / 4) + (cl / 3)) / 2))), some (.int (nI (m % 4))), some (.int 99)]) (v := some (.int (heldY (nI (((cold / 4) + (cl / 3)) / 2)) (nI (m % 4)) 99))) (h' := mk M T) (pc' := 123) (st' := [.int (heldY (nI (((cold / 4) + (cl / 3)) / 2)) (nI (m % 4)) 99)]) rfl rfl rfl rfl rfl rfl (m_held) ?_
      refine R_top (heldY_nI (v := ((cold / 4) + (cl / 3)) / 2) (a := m % 4) (b := 99) (by omega) (by omega) (by omega)) ?_
      refine R_ret 1 (pcr := 123) (v := some (.int (nI (if (((cold / 4) + (cl / 3)) / 2) < (m % 4) then (m % 4) else if 99 < (((cold / 4) + (cl / 3)) / 2) then 99 else (((cold / 4) + (cl / 3)) / 2))))) (h' := mk M T) (fun _ => rfl) ?_
      exact ⟨congrArg (fun z => some (Value.int (nI z))) (a₁ := if (((cold / 4) + (cl / 3)) / 2) < (m % 4) then (m % 4) else if 99 < (((cold / 4) + (cl / 3)) / 2) then 99 else (((cold / 4) + (cl / 3)) / 2)) (by simp only [strN]; first | done | omega | ((repeat' split) <;> omega)), rfl⟩
    by_cases h15 : kd = 5
    · subst h15
      refine R_top (y := 5) rfl ?_
      refine R_go 5 (pc' := 130) (L' := [some (.ref 64), some (.int (nI p)), some (.int (nI cold)), some (.int (nI m)), some (.int (nI ((cold / 4) + (cl / 3)))), some (.int ((nI ((cold / 4) + (cl / 3))) - (nI m)))]) (st' := [.int (M 62 2)]) (h' := mk M T) (fun _ => rfl) ?_
      refine R_top (y := nI lamp) (hl) ?_
      refine R_ifn 2 (c := (nI lamp) = 1) (t := 138) (f := 134) (L' := [some (.ref 64), some (.int (nI p)), some (.int (nI cold)), some (.int (nI m)), some (.int (nI ((cold / 4) + (cl / 3)))), some (.int ((nI ((cold / 4) + (cl / 3))) - (nI m)))]) (st' := []) (h' := mk M T) (fun _ => rfl) (fun h16 => ?_) (fun h16 => ?_)
      · replace h16 : ¬ lamp = 1 := fun q => h16 ((nI_eq (a := lamp) (b := 1) (by omega) (by omega)).mpr q)
        refine R_ret 2 (pcr := 140) (v := some (.int ((nI ((cold / 4) + (cl / 3))) - (nI m)))) (h' := mk M T) (fun _ => rfl) ?_
        exact ⟨by rw [pk_sub (by omega)]; exact congrArg (fun z => some (Value.int (nI z))) (by simp only [strN]; first | done | omega | ((repeat' split) <;> omega)), rfl⟩
      · replace h16 : lamp = 1 := (nI_eq (a := lamp) (b := 1) (by omega) (by omega)).mp h16
        refine R_ret 3 (pcr := 140) (v := some (.int 0)) (h' := mk M T) (fun _ => rfl) ?_
        exact ⟨congrArg (fun z => some (Value.int (nI z))) (a₁ := 0) (by simp only [strN]; first | done | omega | ((repeat' split) <;> omega)), rfl⟩
    by_cases h17 : kd = 6
    · subst h17
      refine R_top (y := 6) rfl ?_
      refine R_go 5 (pc' := 146) (L' := [some (.ref 64), some (.int (nI p)), some (.int (nI cold)), some (.int (nI m)), some (.int (nI ((cold / 4) + (cl / 3)))), some (.int ((nI ((cold / 4) + (cl / 3))) - (nI m)))]) (st' := [.int ((nI cold) - (nI cold) / 3 * 3), .int (nI ((cold / 4) + (cl / 3)))]) (h' := mk M T) (fun _ => rfl) ?_
      refine R_top (pk_rem (a := cold) (d := 3) (by omega) (by omega) (by omega)) ?_
      refine R_go 1 (pc' := 147) (L' := [some (.ref 64), some (.int (nI p)), some (.int (nI cold)), some (.int (nI m)), some (.int (nI ((cold / 4) + (cl / 3)))), some (.int ((nI ((cold / 4) + (cl / 3))) - (nI m)))]) (st' := [.int (nI ((cold / 4) + (cl / 3)) + nI (cold % 3))]) (h' := mk M T) (fun _ => rfl) ?_
      refine R_top (nI_add ((cold / 4) + (cl / 3)) (cold % 3)) ?_
      refine R_ret 1 (pcr := 147) (v := some (.int (nI (((cold / 4) + (cl / 3)) + (cold % 3))))) (h' := mk M T) (fun _ => rfl) ?_
      exact ⟨congrArg (fun z => some (Value.int (nI z))) (a₁ := ((cold / 4) + (cl / 3)) + (cold % 3)) (by simp only [strN]; first | done | omega | ((repeat' split) <;> omega)), rfl⟩
    refine R_tswd (t := 148) rfl (by rw [nI_toInt (by omega)]; omega) rfl ?_
    refine R_ret 2 (pcr := 150) (v := some (.int (nI ((cold / 4) + (cl / 3))))) (h' := mk M T) (fun _ => rfl) ?_
    exact ⟨congrArg (fun z => some (Value.int (nI z))) (a₁ := (cold / 4) + (cl / 3)) (by simp only [strN]; first | done | omega | ((repeat' split) <;> omega)), rfl⟩
set_option maxRecDepth 100000 in
set_option maxHeartbeats 4000000 in
theorem m_meltsOf {ro : xRO} {d : Nat} {M : xM} {T : Nat} {p kd m fc cl : Nat} (hp : p < 8) (hF : rpF M p kd m fc cl) {cold lamp : Nat} (hc : M 62 0 = nI cold) (hl : M 62 2 = nI lamp) (c1 : cold ≤ 40) (l1 : lamp ≤ 1) : Rn ro (d + 1) M_X8_meltsOf 0 [some (.ref 64), some (.int (nI p)), none, none] [] (mk M T) (fun r h => r = some (.int (nI (mltN kd m cold))) ∧ h = mk M T) := by
  obtain ⟨-, -, -, -, b1, b2, b3, b4⟩ := id hF
  refine R_go 3 (pc' := 3) (L' := [some (.ref 64), some (.int (nI p)), none, none]) (st' := [.int 1, .int (nI p), .ref 64]) (h' := mk M T) (fun _ => rfl) ?_
  refine R_callD (i := .invokevirtual 57) (kd := 0) (y := M_X8_of) (as := [.ref 64, .int (nI p), .int 1]) (r := []) (L0 := [some (.ref 64), some (.int (nI p)), some (.int 1)]) (v := some (.int (M 62 (10 + 7 * p + 1)))) (h' := mk M T) (pc' := 6) (st' := [.int (M 62 (10 + 7 * p + 1))]) rfl rfl rfl rfl rfl rfl (m_of (p := p) (j := 1) hp (by omega)) ?_
  refine R_top (hF.2.1) ?_
  refine R_go 4 (pc' := 10) (L' := [some (.ref 64), some (.int (nI p)), some (.int (nI m)), none]) (st' := [.int ((nI m) / 5)]) (h' := mk M T) (fun _ => rfl) ?_
  refine R_top (pk_div (a := m) (d := 5) (by omega) (by omega) (by omega)) ?_
  refine R_go 4 (pc' := 14) (L' := [some (.ref 64), some (.int (nI p)), some (.int (nI m)), some (.int (nI (m / 5)))]) (st' := [.int 0, .int (nI p), .ref 64]) (h' := mk M T) (fun _ => rfl) ?_
  refine R_callD (i := .invokevirtual 57) (kd := 0) (y := M_X8_of) (as := [.ref 64, .int (nI p), .int 0]) (r := []) (L0 := [some (.ref 64), some (.int (nI p)), some (.int 0)]) (v := some (.int (M 62 (10 + 7 * p + 0)))) (h' := mk M T) (pc' := 17) (st' := [.int (M 62 (10 + 7 * p + 0))]) rfl rfl rfl rfl rfl rfl (m_of (p := p) (j := 0) hp (by omega)) ?_
  refine R_top (hF.1) ?_
  by_cases h1 : kd = 1
  · subst h1
    refine R_top (y := 1) rfl ?_
    refine R_ret 3 (pcr := 57) (v := some (.int (nI (m / 5)))) (h' := mk M T) (fun _ => rfl) ?_
    exact ⟨congrArg (fun z => some (Value.int (nI z))) (a₁ := m / 5) (by simp only [mltN]; first | done | omega | ((repeat' split) <;> omega)), rfl⟩
  by_cases h2 : kd = 2
  · subst h2
    refine R_top (y := 2) rfl ?_
    refine R_go 5 (pc' := 62) (L' := [some (.ref 64), some (.int (nI p)), some (.int (nI m)), some (.int (nI (m / 5)))]) (st' := [.int (1 + nI (m / 5)), .int 2]) (h' := mk M T) (fun _ => rfl) ?_
    refine R_top (nI_add 1 (m / 5)) ?_
    refine R_go 1 (pc' := 63) (L' := [some (.ref 64), some (.int (nI p)), some (.int (nI m)), some (.int (nI (m / 5)))]) (st' := [.int (2 * nI (1 + (m / 5)))]) (h' := mk M T) (fun _ => rfl) ?_
    refine R_top (pk_mul 2 (1 + (m / 5))) ?_
    refine R_ret 1 (pcr := 63) (v := some (.int (nI (2 * (1 + (m / 5)))))) (h' := mk M T) (fun _ => rfl) ?_
    exact ⟨congrArg (fun z => some (Value.int (nI z))) (a₁ := 2 * (1 + (m / 5))) (by simp only [mltN]; first | done | omega | ((repeat' split) <;> omega)), rfl⟩
  by_cases h3 : kd = 3
  · subst h3
    refine R_top (y := 3) rfl ?_
    refine R_go 4 (pc' := 84) (L' := [some (.ref 64), some (.int (nI p)), some (.int (nI m)), some (.int (nI (m / 5)))]) (st' := [.int (1 + nI (m / 5))]) (h' := mk M T) (fun _ => rfl) ?_
    refine R_top (nI_add 1 (m / 5)) ?_
    refine R_ret 1 (pcr := 84) (v := some (.int (nI (1 + (m / 5))))) (h' := mk M T) (fun _ => rfl) ?_
    exact ⟨congrArg (fun z => some (Value.int (nI z))) (a₁ := 1 + (m / 5)) (by simp only [mltN]; first | done | omega | ((repeat' split) <;> omega)), rfl⟩
  by_cases h4 : kd = 4
  · subst h4
    refine R_top (y := 4) rfl ?_
    refine R_go 6 (pc' := 71) (L' := [some (.ref 64), some (.int (nI p)), some (.int (nI m)), some (.int (nI (m / 5)))]) (st' := [.int (M 62 0), .int (nI (m / 5))]) (h' := mk M T) (fun _ => rfl) ?_
    refine R_top (y := nI cold) (hc) ?_
    refine R_go 2 (pc' := 73) (L' := [some (.ref 64), some (.int (nI p)), some (.int (nI m)), some (.int (nI (m / 5)))]) (st' := [.int ((nI cold) - (nI cold) / 2 * 2), .int (nI (m / 5))]) (h' := mk M T) (fun _ => rfl) ?_
    refine R_top (pk_rem (a := cold) (d := 2) (by omega) (by omega) (by omega)) ?_
    refine R_go 1 (pc' := 74) (L' := [some (.ref 64), some (.int (nI p)), some (.int (nI m)), some (.int (nI (m / 5)))]) (st' := [.int (nI (m / 5) + nI (cold % 2))]) (h' := mk M T) (fun _ => rfl) ?_
    refine R_top (nI_add (m / 5) (cold % 2)) ?_
    refine R_ret 1 (pcr := 74) (v := some (.int (nI ((m / 5) + (cold % 2))))) (h' := mk M T) (fun _ => rfl) ?_
    exact ⟨congrArg (fun z => some (Value.int (nI z))) (a₁ := (m / 5) + (cold % 2)) (by simp only [mltN]; first | done | omega | ((repeat' split) <;> omega)), rfl⟩
  by_cases h5 : kd = 5
  · subst h5
    refine R_top (y := 5) rfl ?_
    refine R_go 5 (pc' := 62) (L' := [some (.ref 64), some (.int (nI p)), some (.int (nI m)), some (.int (nI (m / 5)))]) (st' := [.int (1 + nI (m / 5)), .int 2]) (h' := mk M T) (fun _ => rfl) ?_
    refine R_top (nI_add 1 (m / 5)) ?_
    refine R_go 1 (pc' := 63) (L' := [some (.ref 64), some (.int (nI p)), some (.int (nI m)), some (.int (nI (m / 5)))]) (st' := [.int (2 * nI (1 + (m / 5)))]) (h' := mk M T) (fun _ => rfl) ?_
    refine R_top (pk_mul 2 (1 + (m / 5))) ?_
    refine R_ret 1 (pcr := 63) (v := some (.int (nI (2 * (1 + (m / 5)))))) (h' := mk M T) (fun _ => rfl) ?_
    exact ⟨congrArg (fun z => some (Value.int (nI z))) (a₁ := 2 * (1 + (m / 5))) (by simp only [mltN]; first | done | omega | ((repeat' split) <;> omega)), rfl⟩
  by_cases h6 : kd = 6
  · subst h6
    refine R_top (y := 6) rfl ?_
    refine R_go 4 (pc' := 78) (L' := [some (.ref 64), some (.int (nI p)), some (.int (nI m)), some (.int (nI (m / 5)))]) (st' := [.int (1 + nI (m / 5))]) (h' := mk M T) (fun _ => rfl) ?_
    refine R_top (nI_add 1 (m / 5)) ?_
    refine R_go 2 (pc' := 80) (L' := [some (.ref 64), some (.int (nI p)), some (.int (nI m)), some (.int (nI (m / 5)))]) (st' := [.int (nI (1 + (m / 5)) + nI m)]) (h' := mk M T) (fun _ => rfl) ?_
    refine R_top (nI_add (1 + (m / 5)) m) ?_
    refine R_ret 1 (pcr := 80) (v := some (.int (nI ((1 + (m / 5)) + m)))) (h' := mk M T) (fun _ => rfl) ?_
    exact ⟨congrArg (fun z => some (Value.int (nI z))) (a₁ := (1 + (m / 5)) + m) (by simp only [mltN]; first | done | omega | ((repeat' split) <;> omega)), rfl⟩
  refine R_tswd (t := 81) rfl (by rw [nI_toInt (by omega)]; omega) rfl ?_
  refine R_go 3 (pc' := 84) (L' := [some (.ref 64), some (.int (nI p)), some (.int (nI m)), some (.int (nI (m / 5)))]) (st' := [.int (1 + nI (m / 5))]) (h' := mk M T) (fun _ => rfl) ?_
  refine R_top (nI_add 1 (m / 5)) ?_
  refine R_ret 1 (pcr := 84) (v := some (.int (nI (1 + (m / 5))))) (h' := mk M T) (fun _ => rfl) ?_
  exact ⟨congrArg (fun z => some (Value.int (nI z))) (a₁ := 1 + (m / 5)) (by simp only [mltN]; first | done | omega | ((repeat' split) <;> omega)), rfl⟩
theorem sub_lt0 {a b : Nat} (ha : a < 2 ^ 30) (hb : b < 2 ^ 30) : nI a - nI b < 0 ↔ a < b := by
  constructor
  · intro h
    rcases Nat.lt_or_ge a b with q | q
    · exact q
    · rw [pk_sub q] at h
      exact absurd h (nI_pos (by omega))
  · exact pk_sneg hb
theorem sub_ge0 {a b : Nat} (ha : a < 2 ^ 30) (hb : b < 2 ^ 30) : 0 ≤ nI a - nI b ↔ b ≤ a := by
  constructor
  · intro h
    rcases Nat.lt_or_ge a b with q | q
    · exact absurd (pk_sneg hb q) (k2_nlt h)
    · exact q
  · intro h
    rw [pk_sub h]
    exact nI_pos' (by omega)
theorem sun_0 {fc hour : Nat} (h : fc = 0 ∨ (fc = 1 ∧ hour < 7) ∨ (fc = 2 ∧ hour < 10) ∨ (fc = 3 ∧ hour < 15)) : sunN fc hour = 0 := by
  rcases h with rfl | ⟨rfl, h⟩ | ⟨rfl, h⟩ | ⟨rfl, h⟩
  · rfl
  · simp only [sunN]; omega
  · simp only [sunN]; omega
  · simp only [sunN]; omega
theorem sun_1 {fc hour : Nat} (h : fc = 1) : sunN fc hour = hour - 7 := by
  subst h
  rfl
theorem sun_2 {fc hour : Nat} (h : fc = 2) : sunN fc hour = hour - 10 := by
  subst h
  rfl
theorem sun_3 {fc hour : Nat} (h : fc = 3) : sunN fc hour = hour - 15 := by
  subst h
  rfl
theorem lft_0 {kd m fc cl hour cold lamp : Nat} (h : sunN fc hour = 0) : strN kd m cl cold lamp - 0 = lftN kd m fc cl hour cold lamp := by
  unfold lftN
  rw [h, Nat.mul_zero]
theorem lft_s {kd m fc cl hour cold lamp t : Nat} (h : sunN fc hour = t) : strN kd m cl cold lamp - t * mltN kd m cold = lftN kd m fc cl hour cold lamp := by
  unfold lftN
  rw [h, Nat.mul_comm]
set_option maxRecDepth 100000 in
set_option maxHeartbeats 4000000 in
theorem m_leftOf {ro : xRO} {d : Nat} {M : xM} {T : Nat} {p kd m fc cl : Nat} (hp : p < 8) (hF : rpF M p kd m fc cl) {cold lamp : Nat} (hc : M 62 0 = nI cold) (hl : M 62 2 = nI lamp) (c1 : cold ≤ 40) (l1 : lamp ≤ 1) {hour : Nat} (h1000 : hour < 1000) (hb : ¬ (M 61 7 >>> (nI p &&& 31)) &&& 1 = 1) : Rn ro (d + 2) M_X8_leftOf 0 [some (.ref 64), some (.int (nI p)), some (.int (nI hour)), none, none, none] [] (mk M T) (fun r h => r = some (.int (nI (lftN kd m fc cl hour cold lamp))) ∧ h = mk M T) := by
  obtain ⟨-, -, -, -, b1, b2, b3, b4⟩ := id hF
  have q1 := strN_le (kd := kd) (lamp := lamp) b2 b4 c1
  have q2 := mltN_le (kd := kd) (cold := cold) b2
  have q3 : hour * mltN kd m cold ≤ 1000 * 11 := Nat.mul_le_mul (by omega) q2
  have q4 : (hour - 7) * mltN kd m cold ≤ 1000 * 11 := Nat.mul_le_mul (by omega) q2
  have q5 : (hour - 10) * mltN kd m cold ≤ 1000 * 11 := Nat.mul_le_mul (by omega) q2
  have q6 : (hour - 15) * mltN kd m cold ≤ 1000 * 11 := Nat.mul_le_mul (by omega) q2
  refine R_ifn 8 (c := (((M 61 7) >>> ((nI p) &&& 31)) &&& 1) = 1) (t := 14) (f := 12) (L' := [some (.ref 64), some (.int (nI p)), some (.int (nI hour)), none, none, none]) (st' := []) (h' := mk M T) (fun _ => rfl) (fun h1 => ?_) (fun h1 => ?_)
  · refine R_go 3 (pc' := 17) (L' := [some (.ref 64), some (.int (nI p)), some (.int (nI hour)), none, none, none]) (st' := [.int 2, .int (nI p), .ref 64]) (h' := mk M T) (fun _ => rfl) ?_
    refine R_callD (i := .invokevirtual 57) (kd := 0) (y := M_X8_of) (as := [.ref 64, .int (nI p), .int 2]) (r := []) (L0 := [some (.ref 64), some (.int (nI p)), some (.int 2)]) (v := some (.int (M 62 (10 + 7 * p + 2)))) (h' := mk M T) (pc' := 20) (st' := [.int (M 62 (10 + 7 * p + 2))]) rfl rfl rfl rfl rfl rfl (m_of (p := p) (j := 2) hp (by omega)) ?_
    refine R_top (hF.2.2.1) ?_
    refine R_ifn 5 (c := (nI fc) = 1) (t := 32) (f := 27) (L' := [some (.ref 64), some (.int (nI p)), some (.int (nI hour)), some (.int (nI fc)), none, none]) (st' := [.int (nI hour)]) (h' := mk M T) (fun _ => rfl) (fun h2 => ?_) (fun h2 => ?_)
    · replace h2 : ¬ fc = 1 := fun q => h2 ((nI_eq (a := fc) (b := 1) (by omega) (by omega)).mpr q)
      refine R_ifn 3 (c := (nI fc) = 2) (t := 42) (f := 37) (L' := [some (.ref 64), some (.int (nI p)), some (.int (nI hour)), some (.int (nI fc)), none, none]) (st' := [.int (nI hour)]) (h' := mk M T) (fun _ => rfl) (fun h3 => ?_) (fun h3 => ?_)
      · replace h3 : ¬ fc = 2 := fun q => h3 ((nI_eq (a := fc) (b := 2) (by omega) (by omega)).mpr q)
        refine R_if 5 (c := (nI fc) = 0) (t := 56) (f := 51) (L' := [some (.ref 64), some (.int (nI p)), some (.int (nI hour)), some (.int (nI fc)), some (.int ((nI hour) - 15)), none]) (st' := []) (h' := mk M T) (fun _ => rfl) (fun h4 => ?_) (fun h4 => ?_)
        · replace h4 : fc = 0 := (nI_eq (a := fc) (b := 0) (by omega) (by omega)).mp h4
          refine R_go 5 (pc' := 72) (L' := [some (.ref 64), some (.int (nI p)), some (.int (nI hour)), some (.int (nI fc)), some (.int ((nI hour) - 15)), some (.int 0)]) (st' := [.int (nI p), .ref 64]) (h' := mk M T) (fun _ => rfl) ?_
          refine R_callD (i := .invokevirtual 73) (kd := 0) (y := M_X8_strokesOf) (as := [.ref 64, .int (nI p)]) (r := []) (L0 := [some (.ref 64), some (.int (nI p)), none, none, none, none]) (v := some (.int (nI (strN kd m cl cold lamp)))) (h' := mk M T) (pc' := 75) (st' := [.int (nI (strN kd m cl cold lamp))]) rfl rfl rfl rfl rfl rfl (m_strokesOf hp hF hc hl c1 l1) ?_
          refine R_go 4 (pc' := 81) (L' := [some (.ref 64), some (.int (nI p)), some (.int (nI hour)), some (.int (nI fc)), some (.int ((nI hour) - 15)), some (.int 0)]) (st' := [.int 99, .int 0, .int ((nI (strN kd m cl cold lamp)) - 0)]) (h' := mk M T) (fun _ => rfl) ?_
          refine R_callD (i := .invokestatic 61) (kd := 1) (y := M_X8_held) (as := [.int ((nI (strN kd m cl cold lamp)) - 0), .int 0, .int 99]) (r := []) (L0 := [some (.int ((nI (strN kd m cl cold lamp)) - 0)), some (.int 0), some (.int 99)]) (v := some (.int (heldY ((nI (strN kd m cl cold lamp)) - 0) 0 99))) (h' := mk M T) (pc' := 84) (st' := [.int (heldY ((nI (strN kd m cl cold lamp)) - 0) 0 99)]) rfl rfl rfl rfl rfl rfl (m_held) ?_
          refine R_top (heldY_sub (a := strN kd m cl cold lamp) (b := 0) (c := 99) (by omega) (by omega) (by omega)) ?_
          refine R_ret 1 (pcr := 84) (v := some (.int (nI ((strN kd m cl cold lamp) - 0)))) (h' := mk M T) (fun _ => rfl) ?_
          exact ⟨congrArg (fun z => some (Value.int (nI z))) (lft_0 (sun_0 (by omega))), rfl⟩
        · replace h4 : ¬ fc = 0 := fun q => h4 ((nI_eq (a := fc) (b := 0) (by omega) (by omega)).mpr q)
          refine R_if 2 (c := 0 ≤ ((nI hour) - 15)) (t := 60) (f := 56) (L' := [some (.ref 64), some (.int (nI p)), some (.int (nI hour)), some (.int (nI fc)), some (.int ((nI hour) - 15)), none]) (st' := []) (h' := mk M T) (fun _ => rfl) (fun h5 => ?_) (fun h5 => ?_)
          · replace h5 : 15 ≤ hour := (sub_ge0 (a := hour) (b := 15) (by omega) (by omega)).mp h5
            refine R_go 1 (pc' := 62) (L' := [some (.ref 64), some (.int (nI p)), some (.int (nI hour)), some (.int (nI fc)), some (.int ((nI hour) - 15)), none]) (st' := [.int ((nI hour) - 15)]) (h' := mk M T) (fun _ => rfl) ?_
            refine R_top (pk_sub (a := hour) (b := 15) (by omega)) ?_
            refine R_go 2 (pc' := 64) (L' := [some (.ref 64), some (.int (nI p)), some (.int (nI hour)), some (.int (nI fc)), some (.int ((nI hour) - 15)), none]) (st' := [.int (nI p), .ref 64, .int (nI (hour - 15))]) (h' := mk M T) (fun _ => rfl) ?_
            refine R_callD (i := .invokevirtual 69) (kd := 0) (y := M_X8_meltsOf) (as := [.ref 64, .int (nI p)]) (r := [.int (nI (hour - 15))]) (L0 := [some (.ref 64), some (.int (nI p)), none, none]) (v := some (.int (nI (mltN kd m cold)))) (h' := mk M T) (pc' := 67) (st' := [.int (nI (mltN kd m cold)), .int (nI (hour - 15))]) rfl rfl rfl rfl rfl rfl (m_meltsOf hp hF hc hl c1 l1) ?_
            refine R_go 1 (pc' := 68) (L' := [some (.ref 64), some (.int (nI p)), some (.int (nI hour)), some (.int (nI fc)), some (.int ((nI hour) - 15)), none]) (st' := [.int (nI (hour - 15) * nI (mltN kd m cold))]) (h' := mk M T) (fun _ => rfl) ?_
            refine R_top (pk_mul (hour - 15) (mltN kd m cold)) ?_
            refine R_go 3 (pc' := 72) (L' := [some (.ref 64), some (.int (nI p)), some (.int (nI hour)), some (.int (nI fc)), some (.int ((nI hour) - 15)), some (.int (nI ((hour - 15) * (mltN kd m cold))))]) (st' := [.int (nI p), .ref 64]) (h' := mk M T) (fun _ => rfl) ?_
            refine R_callD (i := .invokevirtual 73) (kd := 0) (y := M_X8_strokesOf) (as := [.ref 64, .int (nI p)]) (r := []) (L0 := [some (.ref 64), some (.int (nI p)), none, none, none, none]) (v := some (.int (nI (strN kd m cl cold lamp)))) (h' := mk M T) (pc' := 75) (st' := [.int (nI (strN kd m cl cold lamp))]) rfl rfl rfl rfl rfl rfl (m_strokesOf hp hF hc hl c1 l1) ?_
            refine R_go 4 (pc' := 81) (L' := [some (.ref 64), some (.int (nI p)), some (.int (nI hour)), some (.int (nI fc)), some (.int ((nI hour) - 15)), some (.int (nI ((hour - 15) * (mltN kd m cold))))]) (st' := [.int 99, .int 0, .int ((nI (strN kd m cl cold lamp)) - (nI ((hour - 15) * (mltN kd m cold))))]) (h' := mk M T) (fun _ => rfl) ?_
            refine R_callD (i := .invokestatic 61) (kd := 1) (y := M_X8_held) (as := [.int ((nI (strN kd m cl cold lamp)) - (nI ((hour - 15) * (mltN kd m cold)))), .int 0, .int 99]) (r := []) (L0 := [some (.int ((nI (strN kd m cl cold lamp)) - (nI ((hour - 15) * (mltN kd m cold))))), some (.int 0), some (.int 99)]) (v := some (.int (heldY ((nI (strN kd m cl cold lamp)) - (nI ((hour - 15) * (mltN kd m cold)))) 0 99))) (h' := mk M T) (pc' := 84) (st' := [.int (heldY ((nI (strN kd m cl cold lamp)) - (nI ((hour - 15) * (mltN kd m cold)))) 0 99)]) rfl rfl rfl rfl rfl rfl (m_held) ?_
            refine R_top (heldY_sub (a := strN kd m cl cold lamp) (b := (hour - 15) * (mltN kd m cold)) (c := 99) (by omega) (by omega) (by omega)) ?_
            refine R_ret 1 (pcr := 84) (v := some (.int (nI ((strN kd m cl cold lamp) - ((hour - 15) * (mltN kd m cold)))))) (h' := mk M T) (fun _ => rfl) ?_
            exact ⟨congrArg (fun z => some (Value.int (nI z))) (lft_s (sun_3 (by omega))), rfl⟩
          · replace h5 : ¬ 15 ≤ hour := fun q => h5 ((sub_ge0 (a := hour) (b := 15) (by omega) (by omega)).mpr q)
            refine R_go 5 (pc' := 72) (L' := [some (.ref 64), some (.int (nI p)), some (.int (nI hour)), some (.int (nI fc)), some (.int ((nI hour) - 15)), some (.int 0)]) (st' := [.int (nI p), .ref 64]) (h' := mk M T) (fun _ => rfl) ?_
            refine R_callD (i := .invokevirtual 73) (kd := 0) (y := M_X8_strokesOf) (as := [.ref 64, .int (nI p)]) (r := []) (L0 := [some (.ref 64), some (.int (nI p)), none, none, none, none]) (v := some (.int (nI (strN kd m cl cold lamp)))) (h' := mk M T) (pc' := 75) (st' := [.int (nI (strN kd m cl cold lamp))]) rfl rfl rfl rfl rfl rfl (m_strokesOf hp hF hc hl c1 l1) ?_
            refine R_go 4 (pc' := 81) (L' := [some (.ref 64), some (.int (nI p)), some (.int (nI hour)), some (.int (nI fc)), some (.int ((nI hour) - 15)), some (.int 0)]) (st' := [.int 99, .int 0, .int ((nI (strN kd m cl cold lamp)) - 0)]) (h' := mk M T) (fun _ => rfl) ?_
            refine R_callD (i := .invokestatic 61) (kd := 1) (y := M_X8_held) (as := [.int ((nI (strN kd m cl cold lamp)) - 0), .int 0, .int 99]) (r := []) (L0 := [some (.int ((nI (strN kd m cl cold lamp)) - 0)), some (.int 0), some (.int 99)]) (v := some (.int (heldY ((nI (strN kd m cl cold lamp)) - 0) 0 99))) (h' := mk M T) (pc' := 84) (st' := [.int (heldY ((nI (strN kd m cl cold lamp)) - 0) 0 99)]) rfl rfl rfl rfl rfl rfl (m_held) ?_
            refine R_top (heldY_sub (a := strN kd m cl cold lamp) (b := 0) (c := 99) (by omega) (by omega) (by omega)) ?_
            refine R_ret 1 (pcr := 84) (v := some (.int (nI ((strN kd m cl cold lamp) - 0)))) (h' := mk M T) (fun _ => rfl) ?_
            exact ⟨congrArg (fun z => some (Value.int (nI z))) (lft_0 (sun_0 (by omega))), rfl⟩
      · replace h3 : fc = 2 := (nI_eq (a := fc) (b := 2) (by omega) (by omega)).mp h3
        refine R_if 6 (c := (nI fc) = 0) (t := 56) (f := 51) (L' := [some (.ref 64), some (.int (nI p)), some (.int (nI hour)), some (.int (nI fc)), some (.int ((nI hour) - 10)), none]) (st' := []) (h' := mk M T) (fun _ => rfl) (fun h6 => ?_) (fun h6 => ?_)
        · replace h6 : fc = 0 := (nI_eq (a := fc) (b := 0) (by omega) (by omega)).mp h6
          refine R_go 5 (pc' := 72) (L' := [some (.ref 64), some (.int (nI p)), some (.int (nI hour)), some (.int (nI fc)), some (.int ((nI hour) - 10)), some (.int 0)]) (st' := [.int (nI p), .ref 64]) (h' := mk M T) (fun _ => rfl) ?_
          refine R_callD (i := .invokevirtual 73) (kd := 0) (y := M_X8_strokesOf) (as := [.ref 64, .int (nI p)]) (r := []) (L0 := [some (.ref 64), some (.int (nI p)), none, none, none, none]) (v := some (.int (nI (strN kd m cl cold lamp)))) (h' := mk M T) (pc' := 75) (st' := [.int (nI (strN kd m cl cold lamp))]) rfl rfl rfl rfl rfl rfl (m_strokesOf hp hF hc hl c1 l1) ?_
          refine R_go 4 (pc' := 81) (L' := [some (.ref 64), some (.int (nI p)), some (.int (nI hour)), some (.int (nI fc)), some (.int ((nI hour) - 10)), some (.int 0)]) (st' := [.int 99, .int 0, .int ((nI (strN kd m cl cold lamp)) - 0)]) (h' := mk M T) (fun _ => rfl) ?_
          refine R_callD (i := .invokestatic 61) (kd := 1) (y := M_X8_held) (as := [.int ((nI (strN kd m cl cold lamp)) - 0), .int 0, .int 99]) (r := []) (L0 := [some (.int ((nI (strN kd m cl cold lamp)) - 0)), some (.int 0), some (.int 99)]) (v := some (.int (heldY ((nI (strN kd m cl cold lamp)) - 0) 0 99))) (h' := mk M T) (pc' := 84) (st' := [.int (heldY ((nI (strN kd m cl cold lamp)) - 0) 0 99)]) rfl rfl rfl rfl rfl rfl (m_held) ?_
          refine R_top (heldY_sub (a := strN kd m cl cold lamp) (b := 0) (c := 99) (by omega) (by omega) (by omega)) ?_
          refine R_ret 1 (pcr := 84) (v := some (.int (nI ((strN kd m cl cold lamp) - 0)))) (h' := mk M T) (fun _ => rfl) ?_
          exact ⟨congrArg (fun z => some (Value.int (nI z))) (lft_0 (sun_0 (by omega))), rfl⟩
        · replace h6 : ¬ fc = 0 := fun q => h6 ((nI_eq (a := fc) (b := 0) (by omega) (by omega)).mpr q)
          refine R_if 2 (c := 0 ≤ ((nI hour) - 10)) (t := 60) (f := 56) (L' := [some (.ref 64), some (.int (nI p)), some (.int (nI hour)), some (.int (nI fc)), some (.int ((nI hour) - 10)), none]) (st' := []) (h' := mk M T) (fun _ => rfl) (fun h7 => ?_) (fun h7 => ?_)
          · replace h7 : 10 ≤ hour := (sub_ge0 (a := hour) (b := 10) (by omega) (by omega)).mp h7
            refine R_go 1 (pc' := 62) (L' := [some (.ref 64), some (.int (nI p)), some (.int (nI hour)), some (.int (nI fc)), some (.int ((nI hour) - 10)), none]) (st' := [.int ((nI hour) - 10)]) (h' := mk M T) (fun _ => rfl) ?_
            refine R_top (pk_sub (a := hour) (b := 10) (by omega)) ?_
            refine R_go 2 (pc' := 64) (L' := [some (.ref 64), some (.int (nI p)), some (.int (nI hour)), some (.int (nI fc)), some (.int ((nI hour) - 10)), none]) (st' := [.int (nI p), .ref 64, .int (nI (hour - 10))]) (h' := mk M T) (fun _ => rfl) ?_
            refine R_callD (i := .invokevirtual 69) (kd := 0) (y := M_X8_meltsOf) (as := [.ref 64, .int (nI p)]) (r := [.int (nI (hour - 10))]) (L0 := [some (.ref 64), some (.int (nI p)), none, none]) (v := some (.int (nI (mltN kd m cold)))) (h' := mk M T) (pc' := 67) (st' := [.int (nI (mltN kd m cold)), .int (nI (hour - 10))]) rfl rfl rfl rfl rfl rfl (m_meltsOf hp hF hc hl c1 l1) ?_
            refine R_go 1 (pc' := 68) (L' := [some (.ref 64), some (.int (nI p)), some (.int (nI hour)), some (.int (nI fc)), some (.int ((nI hour) - 10)), none]) (st' := [.int (nI (hour - 10) * nI (mltN kd m cold))]) (h' := mk M T) (fun _ => rfl) ?_
            refine R_top (pk_mul (hour - 10) (mltN kd m cold)) ?_
            refine R_go 3 (pc' := 72) (L' := [some (.ref 64), some (.int (nI p)), some (.int (nI hour)), some (.int (nI fc)), some (.int ((nI hour) - 10)), some (.int (nI ((hour - 10) * (mltN kd m cold))))]) (st' := [.int (nI p), .ref 64]) (h' := mk M T) (fun _ => rfl) ?_
            refine R_callD (i := .invokevirtual 73) (kd := 0) (y := M_X8_strokesOf) (as := [.ref 64, .int (nI p)]) (r := []) (L0 := [some (.ref 64), some (.int (nI p)), none, none, none, none]) (v := some (.int (nI (strN kd m cl cold lamp)))) (h' := mk M T) (pc' := 75) (st' := [.int (nI (strN kd m cl cold lamp))]) rfl rfl rfl rfl rfl rfl (m_strokesOf hp hF hc hl c1 l1) ?_
            refine R_go 4 (pc' := 81) (L' := [some (.ref 64), some (.int (nI p)), some (.int (nI hour)), some (.int (nI fc)), some (.int ((nI hour) - 10)), some (.int (nI ((hour - 10) * (mltN kd m cold))))]) (st' := [.int 99, .int 0, .int ((nI (strN kd m cl cold lamp)) - (nI ((hour - 10) * (mltN kd m cold))))]) (h' := mk M T) (fun _ => rfl) ?_
            refine R_callD (i := .invokestatic 61) (kd := 1) (y := M_X8_held) (as := [.int ((nI (strN kd m cl cold lamp)) - (nI ((hour - 10) * (mltN kd m cold)))), .int 0, .int 99]) (r := []) (L0 := [some (.int ((nI (strN kd m cl cold lamp)) - (nI ((hour - 10) * (mltN kd m cold))))), some (.int 0), some (.int 99)]) (v := some (.int (heldY ((nI (strN kd m cl cold lamp)) - (nI ((hour - 10) * (mltN kd m cold)))) 0 99))) (h' := mk M T) (pc' := 84) (st' := [.int (heldY ((nI (strN kd m cl cold lamp)) - (nI ((hour - 10) * (mltN kd m cold)))) 0 99)]) rfl rfl rfl rfl rfl rfl (m_held) ?_
            refine R_top (heldY_sub (a := strN kd m cl cold lamp) (b := (hour - 10) * (mltN kd m cold)) (c := 99) (by omega) (by omega) (by omega)) ?_
            refine R_ret 1 (pcr := 84) (v := some (.int (nI ((strN kd m cl cold lamp) - ((hour - 10) * (mltN kd m cold)))))) (h' := mk M T) (fun _ => rfl) ?_
            exact ⟨congrArg (fun z => some (Value.int (nI z))) (lft_s (sun_2 (by omega))), rfl⟩
          · replace h7 : ¬ 10 ≤ hour := fun q => h7 ((sub_ge0 (a := hour) (b := 10) (by omega) (by omega)).mpr q)
            refine R_go 5 (pc' := 72) (L' := [some (.ref 64), some (.int (nI p)), some (.int (nI hour)), some (.int (nI fc)), some (.int ((nI hour) - 10)), some (.int 0)]) (st' := [.int (nI p), .ref 64]) (h' := mk M T) (fun _ => rfl) ?_
            refine R_callD (i := .invokevirtual 73) (kd := 0) (y := M_X8_strokesOf) (as := [.ref 64, .int (nI p)]) (r := []) (L0 := [some (.ref 64), some (.int (nI p)), none, none, none, none]) (v := some (.int (nI (strN kd m cl cold lamp)))) (h' := mk M T) (pc' := 75) (st' := [.int (nI (strN kd m cl cold lamp))]) rfl rfl rfl rfl rfl rfl (m_strokesOf hp hF hc hl c1 l1) ?_
            refine R_go 4 (pc' := 81) (L' := [some (.ref 64), some (.int (nI p)), some (.int (nI hour)), some (.int (nI fc)), some (.int ((nI hour) - 10)), some (.int 0)]) (st' := [.int 99, .int 0, .int ((nI (strN kd m cl cold lamp)) - 0)]) (h' := mk M T) (fun _ => rfl) ?_
            refine R_callD (i := .invokestatic 61) (kd := 1) (y := M_X8_held) (as := [.int ((nI (strN kd m cl cold lamp)) - 0), .int 0, .int 99]) (r := []) (L0 := [some (.int ((nI (strN kd m cl cold lamp)) - 0)), some (.int 0), some (.int 99)]) (v := some (.int (heldY ((nI (strN kd m cl cold lamp)) - 0) 0 99))) (h' := mk M T) (pc' := 84) (st' := [.int (heldY ((nI (strN kd m cl cold lamp)) - 0) 0 99)]) rfl rfl rfl rfl rfl rfl (m_held) ?_
            refine R_top (heldY_sub (a := strN kd m cl cold lamp) (b := 0) (c := 99) (by omega) (by omega) (by omega)) ?_
            refine R_ret 1 (pcr := 84) (v := some (.int (nI ((strN kd m cl cold lamp) - 0)))) (h' := mk M T) (fun _ => rfl) ?_
            exact ⟨congrArg (fun z => some (Value.int (nI z))) (lft_0 (sun_0 (by omega))), rfl⟩
    · replace h2 : fc = 1 := (nI_eq (a := fc) (b := 1) (by omega) (by omega)).mp h2
      refine R_if 6 (c := (nI fc) = 0) (t := 56) (f := 51) (L' := [some (.ref 64), some (.int (nI p)), some (.int (nI hour)), some (.int (nI fc)), some (.int ((nI hour) - 7)), none]) (st' := []) (h' := mk M T) (fun _ => rfl) (fun h8 => ?_) (fun h8 => ?_)
      · replace h8 : fc = 0 := (nI_eq (a := fc) (b := 0) (by omega) (by omega)).mp h8
        refine R_go 5 (pc' := 72) (L' := [some (.ref 64), some (.int (nI p)), some (.int (nI hour)), some (.int (nI fc)), some (.int ((nI hour) - 7)), some (.int 0)]) (st' := [.int (nI p), .ref 64]) (h' := mk M T) (fun _ => rfl) ?_
        refine R_callD (i := .invokevirtual 73) (kd := 0) (y := M_X8_strokesOf) (as := [.ref 64, .int (nI p)]) (r := []) (L0 := [some (.ref 64), some (.int (nI p)), none, none, none, none]) (v := some (.int (nI (strN kd m cl cold lamp)))) (h' := mk M T) (pc' := 75) (st' := [.int (nI (strN kd m cl cold lamp))]) rfl rfl rfl rfl rfl rfl (m_strokesOf hp hF hc hl c1 l1) ?_
        refine R_go 4 (pc' := 81) (L' := [some (.ref 64), some (.int (nI p)), some (.int (nI hour)), some (.int (nI fc)), some (.int ((nI hour) - 7)), some (.int 0)]) (st' := [.int 99, .int 0, .int ((nI (strN kd m cl cold lamp)) - 0)]) (h' := mk M T) (fun _ => rfl) ?_
        refine R_callD (i := .invokestatic 61) (kd := 1) (y := M_X8_held) (as := [.int ((nI (strN kd m cl cold lamp)) - 0), .int 0, .int 99]) (r := []) (L0 := [some (.int ((nI (strN kd m cl cold lamp)) - 0)), some (.int 0), some (.int 99)]) (v := some (.int (heldY ((nI (strN kd m cl cold lamp)) - 0) 0 99))) (h' := mk M T) (pc' := 84) (st' := [.int (heldY ((nI (strN kd m cl cold lamp)) - 0) 0 99)]) rfl rfl rfl rfl rfl rfl (m_held) ?_
        refine R_top (heldY_sub (a := strN kd m cl cold lamp) (b := 0) (c := 99) (by omega) (by omega) (by omega)) ?_
        refine R_ret 1 (pcr := 84) (v := some (.int (nI ((strN kd m cl cold lamp) - 0)))) (h' := mk M T) (fun _ => rfl) ?_
        exact ⟨congrArg (fun z => some (Value.int (nI z))) (lft_0 (sun_0 (by omega))), rfl⟩
      · replace h8 : ¬ fc = 0 := fun q => h8 ((nI_eq (a := fc) (b := 0) (by omega) (by omega)).mpr q)
        refine R_if 2 (c := 0 ≤ ((nI hour) - 7)) (t := 60) (f := 56) (L' := [some (.ref 64), some (.int (nI p)), some (.int (nI hour)), some (.int (nI fc)), some (.int ((nI hour) - 7)), none]) (st' := []) (h' := mk M T) (fun _ => rfl) (fun h9 => ?_) (fun h9 => ?_)
        · replace h9 : 7 ≤ hour := (sub_ge0 (a := hour) (b := 7) (by omega) (by omega)).mp h9
          refine R_go 1 (pc' := 62) (L' := [some (.ref 64), some (.int (nI p)), some (.int (nI hour)), some (.int (nI fc)), some (.int ((nI hour) - 7)), none]) (st' := [.int ((nI hour) - 7)]) (h' := mk M T) (fun _ => rfl) ?_
          refine R_top (pk_sub (a := hour) (b := 7) (by omega)) ?_
          refine R_go 2 (pc' := 64) (L' := [some (.ref 64), some (.int (nI p)), some (.int (nI hour)), some (.int (nI fc)), some (.int ((nI hour) - 7)), none]) (st' := [.int (nI p), .ref 64, .int (nI (hour - 7))]) (h' := mk M T) (fun _ => rfl) ?_
          refine R_callD (i := .invokevirtual 69) (kd := 0) (y := M_X8_meltsOf) (as := [.ref 64, .int (nI p)]) (r := [.int (nI (hour - 7))]) (L0 := [some (.ref 64), some (.int (nI p)), none, none]) (v := some (.int (nI (mltN kd m cold)))) (h' := mk M T) (pc' := 67) (st' := [.int (nI (mltN kd m cold)), .int (nI (hour - 7))]) rfl rfl rfl rfl rfl rfl (m_meltsOf hp hF hc hl c1 l1) ?_
          refine R_go 1 (pc' := 68) (L' := [some (.ref 64), some (.int (nI p)), some (.int (nI hour)), some (.int (nI fc)), some (.int ((nI hour) - 7)), none]) (st' := [.int (nI (hour - 7) * nI (mltN kd m cold))]) (h' := mk M T) (fun _ => rfl) ?_
          refine R_top (pk_mul (hour - 7) (mltN kd m cold)) ?_
          refine R_go 3 (pc' := 72) (L' := [some (.ref 64), some (.int (nI p)), some (.int (nI hour)), some (.int (nI fc)), some (.int ((nI hour) - 7)), some (.int (nI ((hour - 7) * (mltN kd m cold))))]) (st' := [.int (nI p), .ref 64]) (h' := mk M T) (fun _ => rfl) ?_
          refine R_callD (i := .invokevirtual 73) (kd := 0) (y := M_X8_strokesOf) (as := [.ref 64, .int (nI p)]) (r := []) (L0 := [some (.ref 64), some (.int (nI p)), none, none, none, none]) (v := some (.int (nI (strN kd m cl cold lamp)))) (h' := mk M T) (pc' := 75) (st' := [.int (nI (strN kd m cl cold lamp))]) rfl rfl rfl rfl rfl rfl (m_strokesOf hp hF hc hl c1 l1) ?_
          refine R_go 4 (pc' := 81) (L' := [some (.ref 64), some (.int (nI p)), some (.int (nI hour)), some (.int (nI fc)), some (.int ((nI hour) - 7)), some (.int (nI ((hour - 7) * (mltN kd m cold))))]) (st' := [.int 99, .int 0, .int ((nI (strN kd m cl cold lamp)) - (nI ((hour - 7) * (mltN kd m cold))))]) (h' := mk M T) (fun _ => rfl) ?_
          refine R_callD (i := .invokestatic 61) (kd := 1) (y := M_X8_held) (as := [.int ((nI (strN kd m cl cold lamp)) - (nI ((hour - 7) * (mltN kd m cold)))), .int 0, .int 99]) (r := []) (L0 := [some (.int ((nI (strN kd m cl cold lamp)) - (nI ((hour - 7) * (mltN kd m cold))))), some (.int 0), some (.int 99)]) (v := some (.int (heldY ((nI (strN kd m cl cold lamp)) - (nI ((hour - 7) * (mltN kd m cold)))) 0 99))) (h' := mk M T) (pc' := 84) (st' := [.int (heldY ((nI (strN kd m cl cold lamp)) - (nI ((hour - 7) * (mltN kd m cold)))) 0 99)]) rfl rfl rfl rfl rfl rfl (m_held) ?_
          refine R_top (heldY_sub (a := strN kd m cl cold lamp) (b := (hour - 7) * (mltN kd m cold)) (c := 99) (by omega) (by omega) (by omega)) ?_
          refine R_ret 1 (pcr := 84) (v := some (.int (nI ((strN kd m cl cold lamp) - ((hour - 7) * (mltN kd m cold)))))) (h' := mk M T) (fun _ => rfl) ?_
          exact ⟨congrArg (fun z => some (Value.int (nI z))) (lft_s (sun_1 (by omega))), rfl⟩
        · replace h9 : ¬ 7 ≤ hour := fun q => h9 ((sub_ge0 (a := hour) (b := 7) (by omega) (by omega)).mpr q)
          refine R_go 5 (pc' := 72) (L' := [some (.ref 64), some (.int (nI p)), some (.int (nI hour)), some (.int (nI fc)), some (.int ((nI hour) - 7)), some (.int 0)]) (st' := [.int (nI p), .ref 64]) (h' := mk M T) (fun _ => rfl) ?_
          refine R_callD (i := .invokevirtual 73) (kd := 0) (y := M_X8_strokesOf) (as := [.ref 64, .int (nI p)]) (r := []) (L0 := [some (.ref 64), some (.int (nI p)), none, none, none, none]) (v := some (.int (nI (strN kd m cl cold lamp)))) (h' := mk M T) (pc' := 75) (st' := [.int (nI (strN kd m cl cold lamp))]) rfl rfl rfl rfl rfl rfl (m_strokesOf hp hF hc hl c1 l1) ?_
          refine R_go 4 (pc' := 81) (L' := [some (.ref 64), some (.int (nI p)), some (.int (nI hour)), some (.int (nI fc)), some (.int ((nI hour) - 7)), some (.int 0)]) (st' := [.int 99, .int 0, .int ((nI (strN kd m cl cold lamp)) - 0)]) (h' := mk M T) (fun _ => rfl) ?_
          refine R_callD (i := .invokestatic 61) (kd := 1) (y := M_X8_held) (as := [.int ((nI (strN kd m cl cold lamp)) - 0), .int 0, .int 99]) (r := []) (L0 := [some (.int ((nI (strN kd m cl cold lamp)) - 0)), some (.int 0), some (.int 99)]) (v := some (.int (heldY ((nI (strN kd m cl cold lamp)) - 0) 0 99))) (h' := mk M T) (pc' := 84) (st' := [.int (heldY ((nI (strN kd m cl cold lamp)) - 0) 0 99)]) rfl rfl rfl rfl rfl rfl (m_held) ?_
          refine R_top (heldY_sub (a := strN kd m cl cold lamp) (b := 0) (c := 99) (by omega) (by omega) (by omega)) ?_
          refine R_ret 1 (pcr := 84) (v := some (.int (nI ((strN kd m cl cold lamp) - 0)))) (h' := mk M T) (fun _ => rfl) ?_
          exact ⟨congrArg (fun z => some (Value.int (nI z))) (lft_0 (sun_0 (by omega))), rfl⟩
  · exact absurd h1 (hb)
set_option maxRecDepth 100000 in
set_option maxHeartbeats 4000000 in
theorem m_leftOf_b {ro : xRO} {d : Nat} {M : xM} {T : Nat} {p : Nat} {hour : Int32} (hb : (M 61 7 >>> (nI p &&& 31)) &&& 1 = 1) : Rn ro d M_X8_leftOf 0 [some (.ref 64), some (.int (nI p)), some (.int hour), none, none, none] [] (mk M T) (fun r h => r = some (.int 0) ∧ h = mk M T) := by
  refine R_ifn 8 (c := (((M 61 7) >>> ((nI p) &&& 31)) &&& 1) = 1) (t := 14) (f := 12) (L' := [some (.ref 64), some (.int (nI p)), some (.int hour), none, none, none]) (st' := []) (h' := mk M T) (fun _ => rfl) (fun h1 => ?_) (fun h1 => ?_)
  · exact absurd (hb) h1
  · refine R_ret 2 (pcr := 13) (v := some (.int 0)) (h' := mk M T) (fun _ => rfl) ?_
    exact ⟨rfl, rfl⟩
