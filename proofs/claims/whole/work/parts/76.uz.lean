/-! OPERATION share -/
set_option maxRecDepth 100000 in
set_option maxHeartbeats 4000000 in
theorem x_share_o {ro : xRO} {d : Nat} {M : xM} {T : Nat} {H : Nat} (hH : M 1 7 = nI H) (h6 : H ≤ 6) {i : Int32} (hi : ¬ (0 ≤ i ∧ i < nI H)) : Rn ro (d + 90) M_X7_share 0 [some (.ref 3), some (.int i)] [] (mk M T) (fun r h => r = some (.int (-1000000001)) ∧ h = mk (up M 60 1 (M 60 1 + 1)) T) := by
  refine R_go 3 (pc' := 5) (L' := [some (.ref 3), some (.int i)]) (st' := [.int i, .ref 4]) (h' := mk M T) (fun _ => rfl) ?_
  refine R_call2 (i := .invokevirtual 82) (kd := 0) (y := M_X0_hasHeir) (as := [.ref 4, .int i]) (r := []) (L0 := [some (.ref 4), some (.int i)]) (v1 := some (.int 1)) (v2 := some (.int 0)) (h1' := mk M T) (h2' := mk M T) (pc' := 8) (st1 := [.int 1]) (st2 := [.int 0]) rfl rfl rfl rfl rfl rfl (c_hasHeir hH h6) (fun g1 => ?_) (fun g1 => ?_)
  · exact absurd g1 (hi)
  · refine R_go 3 (pc' := 13) (L' := [some (.ref 3), some (.int i)]) (st' := [.int 1, .ref 3]) (h' := mk M T) (fun _ => rfl) ?_
    refine R_callD (i := .invokevirtual 75) (kd := 0) (y := M_X7_error) (as := [.ref 3, .int 1]) (r := []) (L0 := [some (.ref 3), some (.int 1)]) (v := some (.int (-1000000001))) (h' := mk (up M 60 1 (M 60 1 + 1)) T) (pc' := 16) (st' := [.int (-1000000001)]) rfl rfl rfl rfl rfl rfl (c_error_1) ?_
    refine R_ret 1 (pcr := 16) (v := some (.int (-1000000001))) (h' := mk (up M 60 1 (M 60 1 + 1)) T) (fun _ => rfl) ?_
    exact ⟨rfl, rfl⟩
set_option maxRecDepth 100000 in
set_option maxHeartbeats 4000000 in
theorem m_share_o {ro : xRO} {d : Nat} {M : xM} {T : Nat} {H : Nat} (hH : M 62 7 = nI H) (h6 : H ≤ 6) {i : Int32} (hi : ¬ (0 ≤ i ∧ i < nI H)) : Rn ro (d + 90) M_X8_share 0 [some (.ref 64), some (.int i), none] [] (mk M T) (fun r h => r = some (.int (-1000000001)) ∧ h = mk (up M 64 1 (M 64 1 + 1)) T) := by
  refine R_go 2 (pc' := 2) (L' := [some (.ref 64), some (.int i), none]) (st' := [.int i, .ref 64]) (h' := mk M T) (fun _ => rfl) ?_
  refine R_call2 (i := .invokevirtual 88) (kd := 0) (y := M_X8_isHeir) (as := [.ref 64, .int i]) (r := []) (L0 := [some (.ref 64), some (.int i)]) (v1 := some (.int 1)) (v2 := some (.int 0)) (h1' := mk M T) (h2' := mk M T) (pc' := 5) (st1 := [.int 1]) (st2 := [.int 0]) rfl rfl rfl rfl rfl rfl (m_isHeir hH h6) (fun g1 => ?_) (fun g1 => ?_)
  · exact absurd g1 (hi)
  · refine R_go 3 (pc' := 11) (L' := [some (.ref 64), some (.int i), none]) (st' := [.int (-1000000001), .ref 64]) (h' := mk M T) (fun _ => rfl) ?_
    refine R_callD (i := .invokevirtual 81) (kd := 0) (y := M_X8_error) (as := [.ref 64, .int (-1000000001)]) (r := []) (L0 := [some (.ref 64), some (.int (-1000000001))]) (v := some (.int (-1000000001))) (h' := mk (up M 64 1 (M 64 1 + 1)) T) (pc' := 14) (st' := [.int (-1000000001)]) rfl rfl rfl rfl rfl rfl (m_error_1) ?_
    refine R_ret 1 (pcr := 14) (v := some (.int (-1000000001))) (h' := mk (up M 64 1 (M 64 1 + 1)) T) (fun _ => rfl) ?_
    exact ⟨rfl, rfl⟩
set_option maxRecDepth 100000 in
set_option maxHeartbeats 4000000 in
theorem x_share_s {ro : xRO} {d : Nat} {M : xM} {T : Nat} {H : Nat} (hH : M 1 7 = nI H) (h6 : H ≤ 6) {heir : Nat} (hh : heir < H) {P : Nat} (hP : M 1 6 = nI P) (h8 : P ≤ 8) (hs : 6 < P) : Rn ro (d + 90) M_X7_share 0 [some (.ref 3), some (.int (nI heir))] [] (mk M T) (fun r h => r = some (.int (-1000000003)) ∧ h = mk (up M 60 3 (M 60 3 + 1)) T) := by
  refine R_go 3 (pc' := 5) (L' := [some (.ref 3), some (.int (nI heir))]) (st' := [.int (nI heir), .ref 4]) (h' := mk M T) (fun _ => rfl) ?_
  refine R_call2 (i := .invokevirtual 82) (kd := 0) (y := M_X0_hasHeir) (as := [.ref 4, .int (nI heir)]) (r := []) (L0 := [some (.ref 4), some (.int (nI heir))]) (v1 := some (.int 1)) (v2 := some (.int 0)) (h1' := mk M T) (h2' := mk M T) (pc' := 8) (st1 := [.int 1]) (st2 := [.int 0]) rfl rfl rfl rfl rfl rfl (c_hasHeir hH h6) (fun g1 => ?_) (fun g1 => ?_)
  · refine R_go 4 (pc' := 24) (L' := [some (.ref 3), some (.int (nI heir))]) (st' := [.int (M 1 6)]) (h' := mk M T) (fun _ => rfl) ?_
    refine R_top (y := nI P) (hP) ?_
    refine R_if 2 (c := (nI P) ≤ 6) (t := 35) (f := 29) (L' := [some (.ref 3), some (.int (nI heir))]) (st' := []) (h' := mk M T) (fun _ => rfl) (fun g2 => ?_) (fun g2 => ?_)
    · replace g2 : P ≤ 6 := (nI_leI (a := P) (b := 6) (by omega) (by omega)).mp g2
      omega
    · replace g2 : ¬ P ≤ 6 := fun q => g2 ((nI_leI (a := P) (b := 6) (by omega) (by omega)).mpr q)
      refine R_go 2 (pc' := 31) (L' := [some (.ref 3), some (.int (nI heir))]) (st' := [.int 3, .ref 3]) (h' := mk M T) (fun _ => rfl) ?_
      refine R_callD (i := .invokevirtual 75) (kd := 0) (y := M_X7_error) (as := [.ref 3, .int 3]) (r := []) (L0 := [some (.ref 3), some (.int 3)]) (v := some (.int (-1000000003))) (h' := mk (up M 60 3 (M 60 3 + 1)) T) (pc' := 34) (st' := [.int (-1000000003)]) rfl rfl rfl rfl rfl rfl (c_error_3) ?_
      refine R_ret 1 (pcr := 34) (v := some (.int (-1000000003))) (h' := mk (up M 60 3 (M 60 3 + 1)) T) (fun _ => rfl) ?_
      exact ⟨rfl, rfl⟩
  · exact absurd (⟨nI_pos' (by omega), nI_lt hh (by omega)⟩) g1
set_option maxRecDepth 100000 in
set_option maxHeartbeats 4000000 in
theorem m_share_s {ro : xRO} {d : Nat} {M : xM} {T : Nat} {H : Nat} (hH : M 62 7 = nI H) (h6 : H ≤ 6) {heir : Nat} (hh : heir < H) {P : Nat} (hP : M 62 6 = nI P) (h8 : P ≤ 8) (hs : 6 < P) : Rn ro (d + 90) M_X8_share 0 [some (.ref 64), some (.int (nI heir)), none] [] (mk M T) (fun r h => r = some (.int (-1000000003)) ∧ h = mk (up M 64 3 (M 64 3 + 1)) T) := by
  refine R_go 2 (pc' := 2) (L' := [some (.ref 64), some (.int (nI heir)), none]) (st' := [.int (nI heir), .ref 64]) (h' := mk M T) (fun _ => rfl) ?_
  refine R_call2 (i := .invokevirtual 88) (kd := 0) (y := M_X8_isHeir) (as := [.ref 64, .int (nI heir)]) (r := []) (L0 := [some (.ref 64), some (.int (nI heir))]) (v1 := some (.int 1)) (v2 := some (.int 0)) (h1' := mk M T) (h2' := mk M T) (pc' := 5) (st1 := [.int 1]) (st2 := [.int 0]) rfl rfl rfl rfl rfl rfl (m_isHeir hH h6) (fun g1 => ?_) (fun g1 => ?_)
  · refine R_go 5 (pc' := 22) (L' := [some (.ref 64), some (.int (nI heir)), none]) (st' := [.int (M 62 6)]) (h' := mk M T) (fun _ => rfl) ?_
    refine R_top (y := nI P) (hP) ?_
    refine R_if 2 (c := (nI P) ≤ 6) (t := 34) (f := 27) (L' := [some (.ref 64), some (.int (nI heir)), none]) (st' := []) (h' := mk M T) (fun _ => rfl) (fun g2 => ?_) (fun g2 => ?_)
    · replace g2 : P ≤ 6 := (nI_leI (a := P) (b := 6) (by omega) (by omega)).mp g2
      omega
    · replace g2 : ¬ P ≤ 6 := fun q => g2 ((nI_leI (a := P) (b := 6) (by omega) (by omega)).mpr q)
      refine R_go 2 (pc' := 30) (L' := [some (.ref 64), some (.int (nI heir)), none]) (st' := [.int (-1000000003), .ref 64]) (h' := mk M T) (fun _ => rfl) ?_
      refine R_callD (i := .invokevirtual 81) (kd := 0) (y := M_X8_error) (as := [.ref 64, .int (-1000000003)]) (r := []) (L0 := [some (.ref 64), some (.int (-1000000003))]) (v := some (.int (-1000000003))) (h' := mk (up M 64 3 (M 64 3 + 1)) T) (pc' := 33) (st' := [.int (-1000000003)]) rfl rfl rfl rfl rfl rfl (m_error_3) ?_
      refine R_ret 1 (pcr := 33) (v := some (.int (-1000000003))) (h' := mk (up M 64 3 (M 64 3 + 1)) T) (fun _ => rfl) ?_
      exact ⟨rfl, rfl⟩
  · exact absurd (⟨nI_pos' (by omega), nI_lt hh (by omega)⟩) g1
set_option maxRecDepth 100000 in
set_option maxHeartbeats 4000000 in
theorem x_share_i {ro : xRO} {d : Nat} {M : xM} {T : Nat} {H : Nat} (hH : M 1 7 = nI H) (h6 : H ≤ 6) {heir : Nat} (hh : heir < H) {P : Nat} (hP : M 1 6 = nI P) (h8 : P ≤ 8) (h0 : Rel M) (pm : M 62 6 = nI P) (hs : P ≤ 6) (ho : ∀ j, j < P → (bst M P).2 j < P) (hsu : ∀ j, j < P → ∃ i, i < P ∧ (bst M P).2 i = j) : Rn ro (d + 90) M_X7_share 0 [some (.ref 3), some (.int (nI heir))] [] (mk M T) (fun rr h => ∃ M', (FS M M') ∧ rr = some (.int (nI (gnT M (wkV M 0 (bst M P).2 P) heir P))) ∧ h = mk M' T) := by
  refine R_go 3 (pc' := 5) (L' := [some (.ref 3), some (.int (nI heir))]) (st' := [.int (nI heir), .ref 4]) (h' := mk M T) (fun _ => rfl) ?_
  refine R_call2 (i := .invokevirtual 82) (kd := 0) (y := M_X0_hasHeir) (as := [.ref 4, .int (nI heir)]) (r := []) (L0 := [some (.ref 4), some (.int (nI heir))]) (v1 := some (.int 1)) (v2 := some (.int 0)) (h1' := mk M T) (h2' := mk M T) (pc' := 8) (st1 := [.int 1]) (st2 := [.int 0]) rfl rfl rfl rfl rfl rfl (c_hasHeir hH h6) (fun x1 => ?_) (fun x1 => ?_)
  · refine R_go 4 (pc' := 24) (L' := [some (.ref 3), some (.int (nI heir))]) (st' := [.int (M 1 6)]) (h' := mk M T) (fun _ => rfl) ?_
    refine R_top (y := nI P) (hP) ?_
    refine R_if 2 (c := (nI P) ≤ 6) (t := 35) (f := 29) (L' := [some (.ref 3), some (.int (nI heir))]) (st' := []) (h' := mk M T) (fun _ => rfl) (fun x2 => ?_) (fun x2 => ?_)
    · replace x2 : P ≤ 6 := (nI_leI (a := P) (b := 6) (by omega) (by omega)).mp x2
      refine R_go 4 (pc' := 43) (L' := [some (.ref 3), some (.int (nI heir))]) (st' := [.ref 4, .ref 42]) (h' := mk M T) (fun _ => rfl) ?_
      refine R_callE (i := .invokevirtual 214) (kd := 0) (y := M_X3_takeBest) (as := [.ref 42, .ref 4]) (r := []) (L0 := [some (.ref 42), some (.ref 4)]) (v := fun M1 => none) (h' := fun M1 => mk M1 T) (pc' := 46) (st' := fun M1 => []) rfl rfl rfl rfl rfl rfl (c_takeBest (M0 := M) h0 FC_refl pm hs) (fun M1 x3 => ?_)
      have xw := x3
      refine R_go 6 (pc' := 56) (L' := [some (.ref 3), some (.int (nI heir))]) (st' := [.int 0, .int (nI heir), .ref 4, .ref 42]) (h' := mk M1 T) (fun _ => rfl) ?_
      refine R_callE (i := .invokevirtual 224) (kd := 0) (y := M_X3_gainOf) (as := [.ref 42, .ref 4, .int (nI heir), .int 0]) (r := []) (L0 := [some (.ref 42), some (.ref 4), some (.int (nI heir)), some (.int 0), none, none, none]) (v := fun M2 => some (.int (nI (gnT M (wkV M 0 (bst M P).2 P) heir P)))) (h' := fun M2 => mk M2 T) (pc' := 59) (st' := fun M2 => [.int (nI (gnT M (wkV M 0 (bst M P).2 P) heir P))]) rfl rfl rfl rfl rfl rfl (c_gainOf (M := M1) (M0 := M) (ord := (bst M P).2) (B := 0) (heir := heir) h0 xw.2.1 pm h8 ho xw.2.2.2.2 xw.2.2.1 hsu (by omega)) (fun M2 x4 => ?_)
      have xg := x4
      refine R_ret 1 (pcr := 59) (v := some (.int (nI (gnT M (wkV M 0 (bst M P).2 P) heir P)))) (h' := mk M2 T) (fun _ => rfl) ?_
      exact ⟨M2, fun c hc => (xg.2.2 c (by unfold sIr at hc; omega) (by unfold sIr at hc; omega) (by unfold sIr at hc; omega) (by unfold sIr at hc; omega) (by unfold sIr at hc; omega)).trans (xw.1 c hc), rfl, rfl⟩
    · replace x2 : ¬ P ≤ 6 := fun q => x2 ((nI_leI (a := P) (b := 6) (by omega) (by omega)).mpr q)
      omega
  · exact absurd (⟨nI_pos' (by omega), nI_lt hh (by omega)⟩) x1
set_option maxRecDepth 100000 in
set_option maxHeartbeats 4000000 in
theorem lp_shc {ro : xRO} {d : Nat} {M : xM} {T : Nat} {Q : Option Value → xH → Prop} {P heir : Nat} (hP : M 62 6 = nI P) (h6P : P ≤ 6) : ∀ (k : Nat) (i : Nat), i + k = P → (Rn ro (d + 90) M_X8_share 69 [some (.ref 64), some (.int (nI heir)), some (.int (nI P))] [] (mk (caM M 74 72 P) T) Q) → Rn ro (d + 90) M_X8_share 40 [some (.ref 64), some (.int (nI heir)), some (.int (nI i))] [] (mk (caM M 74 72 i) T) Q := by
  intro k
  induction k with
  | zero =>
    intro i hi k1
    obtain rfl : i = P := by omega
    refine R_go 5 (pc' := 48) (L' := [some (.ref 64), some (.int (nI heir)), some (.int (nI i))]) (st' := [.int ((caM M 74 72 i) 62 6), .int (nI i)]) (h' := mk (caM M 74 72 i) T) (fun _ => rfl) ?_
    refine R_top (y := nI i) ((congrFun (caM_ne (by omega) (by omega)) 6).trans hP) ?_
    refine R_if 1 (c := (nI i) ≤ (nI i)) (t := 69) (f := 51) (L' := [some (.ref 64), some (.int (nI heir)), some (.int (nI i))]) (st' := []) (h' := mk (caM M 74 72 i) T) (fun _ => rfl) (fun g1 => ?_) (fun g1 => ?_)
    · replace g1 : i ≤ i := (nI_leI (a := i) (b := i) (by omega) (by omega)).mp g1
      exact k1
    · replace g1 : ¬ i ≤ i := fun q => g1 ((nI_leI (a := i) (b := i) (by omega) (by omega)).mpr q)
      omega
  | succ k ih =>
    intro i hi k1
    refine R_go 5 (pc' := 48) (L' := [some (.ref 64), some (.int (nI heir)), some (.int (nI i))]) (st' := [.int ((caM M 74 72 i) 62 6), .int (nI i)]) (h' := mk (caM M 74 72 i) T) (fun _ => rfl) ?_
    refine R_top (y := nI P) ((congrFun (caM_ne (by omega) (by omega)) 6).trans hP) ?_
    refine R_if 1 (c := (nI P) ≤ (nI i)) (t := 69) (f := 51) (L' := [some (.ref 64), some (.int (nI heir)), some (.int (nI i))]) (st' := []) (h' := mk (caM M 74 72 i) T) (fun _ => rfl) (fun g1 => ?_) (fun g1 => ?_)
    · replace g1 : P ≤ i := (nI_leI (a := P) (b := i) (by omega) (by omega)).mp g1
      omega
    · replace g1 : ¬ P ≤ i := fun q => g1 ((nI_leI (a := P) (b := i) (by omega) (by omega)).mpr q)
      refine R_go 6 (pc' := 61) (L' := [some (.ref 64), some (.int (nI heir)), some (.int (nI i))]) (st' := [.int (nI i), .ref 77, .int (nI i), .ref 75]) (h' := mk (caM M 74 72 i) T) (fun _ => rfl) ?_
      refine R_iald (c := 74) (n := 6) (j := i) rfl rfl (by omega) (by decide) ?_
      refine R_iast (c := 72) (n := 8) (j := i) rfl rfl (by omega) (by decide) ?_
      refine R_go 1 (pc' := 66) (L' := [some (.ref 64), some (.int (nI heir)), some (.int ((nI i) + 1))]) (st' := []) (h' := mk (up (caM M 74 72 i) 72 i ((caM M 74 72 i) 74 i)) T) (fun _ => rfl) ?_
      rw [nI_1]
      refine R_go 1 (pc' := 40) (L' := [some (.ref 64), some (.int (nI heir)), some (.int (nI (i + 1)))]) (st' := []) (h' := mk (up (caM M 74 72 i) 72 i ((caM M 74 72 i) 74 i)) T) (fun _ => rfl) ?_
      exact ih (i + 1) (by omega) k1
set_option maxRecDepth 100000 in
set_option maxHeartbeats 4000000 in
theorem m_share_i {ro : xRO} {d : Nat} {M : xM} {T : Nat} {H : Nat} (hH : M 62 7 = nI H) (h6 : H ≤ 6) {heir : Nat} (hh : heir < H) {P : Nat} (hP : M 62 6 = nI P) (h8 : P ≤ 8) {M0 : xM} (h0 : Rel M0) (hf : FM M0 M) (hB : M 61 7 = 0) (pm : M0 62 6 = nI P) (hs : P ≤ 6) (ho : ∀ j, j < P → (bst M0 P).2 j < P) (hsu : ∀ j, j < P → ∃ i, i < P ∧ (bst M0 P).2 i = j) : Rn ro (d + 90) M_X8_share 0 [some (.ref 64), some (.int (nI heir)), none] [] (mk M T) (fun rr h => ∃ M', ((∀ c, c ≠ 61 → ¬ sIr c → M' c = M c) ∧ (∀ j, j ≠ 20 → M' 61 j = M 61 j)) ∧ rr = some (.int (nI (gnT M0 (wkV M0 0 (bst M0 P).2 P) heir P))) ∧ h = mk M' T) := by
  refine R_go 2 (pc' := 2) (L' := [some (.ref 64), some (.int (nI heir)), none]) (st' := [.int (nI heir), .ref 64]) (h' := mk M T) (fun _ => rfl) ?_
  refine R_call2 (i := .invokevirtual 88) (kd := 0) (y := M_X8_isHeir) (as := [.ref 64, .int (nI heir)]) (r := []) (L0 := [some (.ref 64), some (.int (nI heir))]) (v1 := some (.int 1)) (v2 := some (.int 0)) (h1' := mk M T) (h2' := mk M T) (pc' := 5) (st1 := [.int 1]) (st2 := [.int 0]) rfl rfl rfl rfl rfl rfl (m_isHeir hH h6) (fun x1 => ?_) (fun x1 => ?_)
  · refine R_go 5 (pc' := 22) (L' := [some (.ref 64), some (.int (nI heir)), none]) (st' := [.int (M 62 6)]) (h' := mk M T) (fun _ => rfl) ?_
    refine R_top (y := nI P) (hP) ?_
    refine R_if 2 (c := (nI P) ≤ 6) (t := 34) (f := 27) (L' := [some (.ref 64), some (.int (nI heir)), none]) (st' := []) (h' := mk M T) (fun _ => rfl) (fun x2 => ?_) (fun x2 => ?_)
    · replace x2 : P ≤ 6 := (nI_leI (a := P) (b := 6) (by omega) (by omega)).mp x2
      refine R_go 1 (pc' := 35) (L' := [some (.ref 64), some (.int (nI heir)), none]) (st' := [.ref 64]) (h' := mk M T) (fun _ => rfl) ?_
      refine R_callE (i := .invokevirtual 197) (kd := 0) (y := M_X8_findBest) (as := [.ref 64]) (r := []) (L0 := [some (.ref 64)]) (v := fun M1 => none) (h' := fun M1 => mk M1 T) (pc' := 38) (st' := fun M1 => []) rfl rfl rfl rfl rfl rfl (c_findBest h0 hf hB pm hs) (fun M1 x3 => ?_)
      have xw := x3
      refine R_go 2 (pc' := 40) (L' := [some (.ref 64), some (.int (nI heir)), some (.int 0)]) (st' := []) (h' := mk M1 T) (fun _ => rfl) ?_
      refine lp_shc (M := M1) (heir := heir) ((xw.2.2.1 6 (by omega) (by omega) (by omega)).trans pm) hs P 0 (Nat.zero_add P) ?_
      obtain ⟨M3, e3⟩ : ∃ M3, M3 = caM M1 74 72 P := ⟨_, rfl⟩
      rw [← e3]
      refine R_go 1 (pc' := 70) (L' := [some (.ref 64), some (.int (nI heir)), some (.int (nI P))]) (st' := [.ref 64]) (h' := mk M3 T) (fun _ => rfl) ?_
      refine R_callE (i := .invokevirtual 174) (kd := 0) (y := M_X8_roundOf) (as := [.ref 64]) (r := []) (L0 := [some (.ref 64), none, none, none, none, none]) (v := fun M2 => some (.int (nI (rsum M0 0 (bst M0 P).2 P)))) (h' := fun M2 => mk M2 T) (pc' := 73) (st' := fun M2 => [.int (nI (rsum M0 0 (bst M0 P).2 P))]) rfl rfl rfl rfl rfl rfl (m_roundOf (M := M3) (ord := (bst M0 P).2) (B := 0) h0 (fun j a b c => by rw [e3]; exact (congrFun (caM_ne (by omega) (by omega)) j).trans (xw.2.2.1 j a b c)) pm h8 ho (fun j hj => by rw [e3, caM_rd (by omega), if_pos ⟨rfl, hj⟩]; exact xw.2.2.2.2 j hj) (by rw [e3, caM_ne (by omega) (by omega), xw.2.1 7 (by omega)]; exact hB)) (fun M2 x4 => ?_)
      have xg := x4
      refine R_go 3 (pc' := 76) (L' := [some (.ref 64), some (.int (nI heir)), some (.int (nI P))]) (st' := [.int (nI heir), .ref 64]) (h' := mk M2 T) (fun _ => rfl) ?_
      refine R_callD (i := .invokevirtual 200) (kd := 0) (y := M_X8_shareIn) (as := [.ref 64, .int (nI heir)]) (r := []) (L0 := [some (.ref 64), some (.int (nI heir)), none, none]) (v := some (.int (nI (gnT M0 (wkV M0 0 (bst M0 P).2 P) heir P)))) (h' := mk M2 T) (pc' := 79) (st' := [.int (nI (gnT M0 (wkV M0 0 (bst M0 P).2 P) heir P))]) rfl rfl rfl rfl rfl rfl (c_shareIn (M := M2) (M0 := M0) (heir := heir) h0 xg.1 pm h8 (by omega) (wv := wkV M0 0 (bst M0 P).2 P) (fun j hj => ⟨by rw [xg.2.2]; exact (wkV_p (hsu j hj)).2 _, (wkV_p (hsu j hj)).1⟩)) ?_
      refine R_ret 1 (pcr := 79) (v := some (.int (nI (gnT M0 (wkV M0 0 (bst M0 P).2 P) heir P)))) (h' := mk M2 T) (fun _ => rfl) ?_
      exact ⟨M2, ⟨fun c a hc => by unfold sIr at hc; exact (xg.2.1 c (by omega) (by omega) (by omega)).trans (by rw [e3, caM_ne (by omega) (by omega)]; exact xw.1 c a (by unfold sIr; omega)), fun j a => by rw [xg.2.1 61 (by omega) (by omega) (by omega), e3, caM_ne (by omega) (by omega)]; exact xw.2.1 j a⟩, rfl, rfl⟩
    · replace x2 : ¬ P ≤ 6 := fun q => x2 ((nI_leI (a := P) (b := 6) (by omega) (by omega)).mpr q)
      omega
  · exact absurd (⟨nI_pos' (by omega), nI_lt hh (by omega)⟩) x1
set_option maxHeartbeats 4000000 in
theorem op_share {ro : xRO} {M : xM} {T : Nat} (h : Rel M) {i : Int32} : OpOK ro M_X7_share M_X8_share [some (.ref 3), some (.int i)] [some (.ref 64), some (.int i), none] M T := by
  obtain ⟨P, H, h8, h6, pm, hm, px, hx, a, b1, b2, b3, b4, c2, c3, c4, c5⟩ := rel_all h
  rcases nI_cases i H (by omega) with ⟨heir, hh, rfl⟩ | hi
  · rcases Nat.lt_or_ge 6 P with hs | hs
    · exact OpOK.of (fun d => x_share_s hx h6 hh px h8 hs) (fun d => m_share_s (M := up M 60 3 (M 60 3 + 1)) hm h6 hh pm h8 hs) rfl (h.err 3 (by omega))
    · obtain ⟨b, -, ho, hsu⟩ := bst_ok (M0 := M) (P := P) (by omega)
      refine OpOK.ofE (A := fun r M1 => FS M M1 ∧ r = nI (gnT M (wkV M 0 (bst M P).2 P) heir P)) ?_ ?_
      · refine (x_share_i hx h6 hh px h8 h pm hs ho hsu).imp (fun _ _ q => ?_)
        obtain ⟨M', q1, q2, q3⟩ := q
        exact ⟨(_, M'), ⟨q1, rfl⟩, q2, q3⟩
      · intro r M1 hA
        obtain ⟨f1, rfl⟩ := hA
        have e62 := f1 62 (by unfold sIr; omega)
        have e61 := f1 61 (by unfold sIr; omega)
        have r1 := FS_rel h f1
        refine (m_share_i (M := M1) (M0 := M) (by rw [e62]; exact hm) h6 hh (by rw [e62]; exact pm) h8 h (fun j _ _ _ => by rw [e62]) (by rw [e61]; exact h.2.2.2.2.2) pm hs ho hsu).imp (fun _ _ q => ?_)
        obtain ⟨M', ⟨q1, q4⟩, q2, q3⟩ := q
        exact ⟨M', r1.irr (fun c b1 b2 b3 b4 b5 => q1 c b4 (by unfold sIr; omega)) (q4 2 (by omega)) ((q4 7 (by omega)).trans r1.2.2.2.2.2) (q4 22 (by omega)), q2, q3⟩
  · exact OpOK.of (fun d => x_share_o hx h6 hi) (fun d => m_share_o (M := up M 60 1 (M 60 1 + 1)) hm h6 hi) rfl (h.err 1 (by omega))
