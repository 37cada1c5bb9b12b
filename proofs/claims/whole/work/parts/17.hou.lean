/-! THE CLASS: House, Sheet, errors -/
set_option maxRecDepth 100000 in
set_option maxHeartbeats 4000000 in
theorem c_hasHeir {ro : xRO} {d : Nat} {M : xM} {T : Nat} {H : Nat} (hH : M 1 7 = nI H) (hH6 : H ≤ 6) {i : Int32} : Rn ro d M_X0_hasHeir 0 [some (.ref 4), some (.int i)] [] (mk M T) (fun r h => ((0 ≤ i ∧ i < nI H) ∧ r = some (.int 1) ∧ h = mk M T) ∨ (¬ (0 ≤ i ∧ i < nI H) ∧ r = some (.int 0) ∧ h = mk M T)) := by
  refine R_if 2 (c := i < 0) (t := 16) (f := 4) (L' := [some (.ref 4), some (.int i)]) (st' := []) (h' := mk M T) (fun _ => rfl) (fun h1 => ?_) (fun h1 => ?_)
  · refine R_ret 2 (pcr := 17) (v := some (.int 0)) (h' := mk M T) (fun _ => rfl) ?_
    exact Or.inr ⟨fun q => absurd q.1 (k2_nle h1), rfl, rfl⟩
  · refine R_go 3 (pc' := 9) (L' := [some (.ref 4), some (.int i)]) (st' := [.int (M 1 7), .int i]) (h' := mk M T) (fun _ => rfl) ?_
    refine R_top (y := nI H) (hH) ?_
    refine R_if 1 (c := (nI H) ≤ i) (t := 16) (f := 12) (L' := [some (.ref 4), some (.int i)]) (st' := []) (h' := mk M T) (fun _ => rfl) (fun h2 => ?_) (fun h2 => ?_)
    · refine R_ret 2 (pcr := 17) (v := some (.int 0)) (h' := mk M T) (fun _ => rfl) ?_
      exact Or.inr ⟨fun q => absurd q.2 (k2_nlt h2), rfl, rfl⟩
    · refine R_ret 3 (pcr := 17) (v := some (.int 1)) (h' := mk M T) (fun _ => rfl) ?_
      exact Or.inl ⟨⟨k2_le h1, k2_lt h2⟩, rfl, rfl⟩
theorem nI_cases (i : Int32) (P : Nat) (hP : P < 2 ^ 31) : (∃ n, n < P ∧ i = nI n) ∨ ¬ (0 ≤ i ∧ i < nI P) := by
  rcases pk_ix i hP with h | h | ⟨n, h1, h2⟩
  · exact Or.inr fun q => absurd q.1 (k2_nle h)
  · exact Or.inr fun q => absurd q.2 (k2_nlt h)
  · exact Or.inl ⟨n, h1, h2⟩
set_option maxRecDepth 100000 in
set_option maxHeartbeats 4000000 in
theorem c_paneAt_in {ro : xRO} {d : Nat} {M : xM} {T : Nat} {P : Nat} (hP : M 1 6 = nI P) (hP8 : P ≤ 8) {n : Nat} (hn : n < P) : Rn ro d M_X0_paneAt 0 [some (.ref 4), some (.int (nI n))] [] (mk M T) (fun r h => r = some (.ref (3 + n + 3)) ∧ h = mk M T) := by
  refine R_if 2 (c := (nI n) < 0) (t := 30) (f := 4) (L' := [some (.ref 4), some (.int (nI n))]) (st' := []) (h' := mk M T) (fun _ => rfl) (fun h1 => ?_) (fun h1 => ?_)
  · replace h1 : n < 0 := (nI_ltI (a := n) (b := 0) (by omega) (by omega)).mp h1
    omega
  · replace h1 : ¬ n < 0 := fun q => h1 ((nI_ltI (a := n) (b := 0) (by omega) (by omega)).mpr q)
    refine R_go 3 (pc' := 9) (L' := [some (.ref 4), some (.int (nI n))]) (st' := [.int (M 1 6), .int (nI n)]) (h' := mk M T) (fun _ => rfl) ?_
    refine R_top (y := nI P) (hP) ?_
    refine R_if 1 (c := (nI P) ≤ (nI n)) (t := 30) (f := 12) (L' := [some (.ref 4), some (.int (nI n))]) (st' := []) (h' := mk M T) (fun _ => rfl) (fun h2 => ?_) (fun h2 => ?_)
    · replace h2 : P ≤ n := (nI_leI (a := P) (b := n) (by omega) (by omega)).mp h2
      omega
    · replace h2 : ¬ P ≤ n := fun q => h2 ((nI_leI (a := P) (b := n) (by omega) (by omega)).mpr q)
      refine R_if 5 (c := 8 ≤ (nI n)) (t := 30) (f := 21) (L' := [some (.ref 4), some (.int (nI n))]) (st' := []) (h' := mk M T) (fun _ => rfl) (fun h3 => ?_) (fun h3 => ?_)
      · replace h3 : 8 ≤ n := (nI_leI (a := 8) (b := n) (by omega) (by omega)).mp h3
        omega
      · replace h3 : ¬ 8 ≤ n := fun q => h3 ((nI_leI (a := 8) (b := n) (by omega) (by omega)).mpr q)
        refine R_go 3 (pc' := 26) (L' := [some (.ref 4), some (.int (nI n))]) (st' := [.int (nI n), .ref 5]) (h' := mk M T) (fun _ => rfl) ?_
        refine R_aald_2 (j := n) rfl (by omega) ?_
        refine R_ret 2 (pcr := 31) (v := some (.ref (3 + n + 3))) (h' := mk M T) (fun _ => rfl) ?_
        exact ⟨rfl, rfl⟩
set_option maxRecDepth 100000 in
set_option maxHeartbeats 4000000 in
theorem c_paneAt_out {ro : xRO} {d : Nat} {M : xM} {T : Nat} {P : Nat} (hP : M 1 6 = nI P) (hP8 : P ≤ 8) {i : Int32} (hi : ¬ (0 ≤ i ∧ i < nI P)) : Rn ro d M_X0_paneAt 0 [some (.ref 4), some (.int i)] [] (mk M T) (fun r h => r = some .null ∧ h = mk M T) := by
  refine R_if 2 (c := i < 0) (t := 30) (f := 4) (L' := [some (.ref 4), some (.int i)]) (st' := []) (h' := mk M T) (fun _ => rfl) (fun h1 => ?_) (fun h1 => ?_)
  · refine R_ret 2 (pcr := 31) (v := some (.null)) (h' := mk M T) (fun _ => rfl) ?_
    exact ⟨rfl, rfl⟩
  · refine R_go 3 (pc' := 9) (L' := [some (.ref 4), some (.int i)]) (st' := [.int (M 1 6), .int i]) (h' := mk M T) (fun _ => rfl) ?_
    refine R_top (y := nI P) (hP) ?_
    refine R_if 1 (c := (nI P) ≤ i) (t := 30) (f := 12) (L' := [some (.ref 4), some (.int i)]) (st' := []) (h' := mk M T) (fun _ => rfl) (fun h2 => ?_) (fun h2 => ?_)
    · refine R_ret 2 (pcr := 31) (v := some (.null)) (h' := mk M T) (fun _ => rfl) ?_
      exact ⟨rfl, rfl⟩
    · exact absurd ⟨k2_le h1, k2_lt h2⟩ hi
set_option maxRecDepth 100000 in
set_option maxHeartbeats 4000000 in
theorem c_purse {ro : xRO} {d : Nat} {M : xM} {T : Nat} {n : Nat} (hn : n < 6) : Rn ro d M_X0_purse 0 [some (.ref 4), some (.int (nI n))] [] (mk M T) (fun r h => r = some (.int (M 11 n)) ∧ h = mk M T) := by
  refine R_if 2 (c := (nI n) < 0) (t := 22) (f := 4) (L' := [some (.ref 4), some (.int (nI n))]) (st' := []) (h' := mk M T) (fun _ => rfl) (fun h1 => ?_) (fun h1 => ?_)
  · replace h1 : n < 0 := (nI_ltI (a := n) (b := 0) (by omega) (by omega)).mp h1
    omega
  · replace h1 : ¬ n < 0 := fun q => h1 ((nI_ltI (a := n) (b := 0) (by omega) (by omega)).mpr q)
    refine R_if 5 (c := 6 ≤ (nI n)) (t := 22) (f := 13) (L' := [some (.ref 4), some (.int (nI n))]) (st' := []) (h' := mk M T) (fun _ => rfl) (fun h2 => ?_) (fun h2 => ?_)
    · replace h2 : 6 ≤ n := (nI_leI (a := 6) (b := n) (by omega) (by omega)).mp h2
      omega
    · replace h2 : ¬ 6 ≤ n := fun q => h2 ((nI_leI (a := 6) (b := n) (by omega) (by omega)).mpr q)
      refine R_go 3 (pc' := 18) (L' := [some (.ref 4), some (.int (nI n))]) (st' := [.int (nI n), .ref 14]) (h' := mk M T) (fun _ => rfl) ?_
      refine R_iald (c := 11) (n := 6) (j := n) rfl rfl (by omega) (by decide) ?_
      refine R_ret 2 (pcr := 23) (v := some (.int (M 11 n))) (h' := mk M T) (fun _ => rfl) ?_
      exact ⟨rfl, rfl⟩
set_option maxRecDepth 100000 in
set_option maxHeartbeats 4000000 in
theorem c_give {ro : xRO} {d : Nat} {M : xM} {T : Nat} {n w v : Nat} (hn : n < 6) (hw : M 11 n = nI w) (w1 : w ≤ 99999) (v1 : v ≤ 9999) : Rn ro d M_X0_give 0 [some (.ref 4), some (.int (nI n)), some (.int (nI v))] [] (mk M T) (fun r h => r = none ∧ h = mk (up M 11 n (nI (if w + v < 99999 then w + v else 99999))) T) := by
  refine R_if 2 (c := (nI n) < 0) (t := 32) (f := 4) (L' := [some (.ref 4), some (.int (nI n)), some (.int (nI v))]) (st' := []) (h' := mk M T) (fun _ => rfl) (fun h1 => ?_) (fun h1 => ?_)
  · replace h1 : n < 0 := (nI_ltI (a := n) (b := 0) (by omega) (by omega)).mp h1
    omega
  · replace h1 : ¬ n < 0 := fun q => h1 ((nI_ltI (a := n) (b := 0) (by omega) (by omega)).mpr q)
    refine R_if 5 (c := 6 ≤ (nI n)) (t := 32) (f := 13) (L' := [some (.ref 4), some (.int (nI n)), some (.int (nI v))]) (st' := []) (h' := mk M T) (fun _ => rfl) (fun h2 => ?_) (fun h2 => ?_)
    · replace h2 : 6 ≤ n := (nI_leI (a := 6) (b := n) (by omega) (by omega)).mp h2
      omega
    · replace h2 : ¬ 6 ≤ n := fun q => h2 ((nI_leI (a := 6) (b := n) (by omega) (by omega)).mpr q)
      refine R_go 7 (pc' := 25) (L' := [some (.ref 4), some (.int (nI n)), some (.int (nI v))]) (st' := [.int (nI n), .ref 14, .int 99999, .int (nI n), .ref 14]) (h' := mk M T) (fun _ => rfl) ?_
      refine R_iald (c := 11) (n := 6) (j := n) rfl rfl (by omega) (by decide) ?_
      refine R_top (y := nI w) (hw) ?_
      refine R_go 2 (pc' := 28) (L' := [some (.ref 4), some (.int (nI n)), some (.int (nI v))]) (st' := [.int (nI w + nI v), .int 99999, .int (nI n), .ref 14]) (h' := mk M T) (fun _ => rfl) ?_
      refine R_top (nI_add w v) ?_
      refine R_go 1 (pc' := 31) (L' := [some (.ref 4), some (.int (nI n)), some (.int (nI v))]) (st' := [.int (if (nI (w + v)) < 99999 then (nI (w + v)) else 99999), .int (nI n), .ref 14]) (h' := mk M T) (fun _ => rfl) ?_
      refine R_top (mn_nI (a := 99999) (b := w + v) (by omega) (by omega)) ?_
      refine R_iast (c := 11) (n := 6) (j := n) rfl rfl (by omega) (by decide) ?_
      refine R_ret 1 (pcr := 32) (v := none) (h' := mk (up M 11 n (nI (if (w + v) < 99999 then (w + v) else 99999))) T) (fun _ => rfl) ?_
      exact ⟨rfl, rfl⟩
set_option maxRecDepth 100000 in
set_option maxHeartbeats 4000000 in
theorem c_textOf_0 {ro : xRO} {d : Nat} {M : xM} {T : Nat}  : Rn ro d M_X0_textOf 0 [some (.ref 4), some (.int 0)] [] (mk M T) (fun r h => r = some (.ref 17) ∧ h = mk M T) := by
  refine R_ret 5 (pcr := 8) (v := some (.ref 17)) (h' := mk M T) (fun _ => rfl) ?_
  exact ⟨rfl, rfl⟩
set_option maxRecDepth 100000 in
set_option maxHeartbeats 4000000 in
theorem c_textOf_1 {ro : xRO} {d : Nat} {M : xM} {T : Nat}  : Rn ro d M_X0_textOf 0 [some (.ref 4), some (.int 1)] [] (mk M T) (fun r h => r = some (.ref 20) ∧ h = mk M T) := by
  refine R_ret 9 (pcr := 22) (v := some (.ref 20)) (h' := mk M T) (fun _ => rfl) ?_
  exact ⟨rfl, rfl⟩
set_option maxRecDepth 100000 in
set_option maxHeartbeats 4000000 in
theorem c_textOf_n {ro : xRO} {d : Nat} {M : xM} {T : Nat} {i : Int32} (u0 : ¬ i = 0) (u1 : ¬ i = 1) : Rn ro d M_X0_textOf 0 [some (.ref 4), some (.int i)] [] (mk M T) (fun r h => r = some .null ∧ h = mk M T) := by
  refine R_ifn 2 (c := i = 0) (t := 9) (f := 4) (L' := [some (.ref 4), some (.int i)]) (st' := []) (h' := mk M T) (fun _ => rfl) (fun h1 => ?_) (fun h1 => ?_)
  · refine R_ifn 3 (c := i = 1) (t := 21) (f := 14) (L' := [some (.ref 4), some (.int i)]) (st' := []) (h' := mk M T) (fun _ => rfl) (fun h2 => ?_) (fun h2 => ?_)
    · refine R_ret 2 (pcr := 22) (v := some (.null)) (h' := mk M T) (fun _ => rfl) ?_
      exact ⟨rfl, rfl⟩
    · exact absurd h2 (u1)
  · exact absurd h1 (u0)
set_option maxRecDepth 100000 in
set_option maxHeartbeats 4000000 in
theorem c_draw {ro : xRO} {d : Nat} {M : xM} {T : Nat}  : Rn ro d M_X0_draw 0 [some (.ref 4)] [] (mk M T) (fun r h => r = some (.int (((M 1 15 * 1103515245 + 12345).toUInt32 >>> (Int32.toUInt32 8 &&& Int32.toUInt32 31)).toInt32)) ∧ h = mk (up M 1 15 (M 1 15 * 1103515245 + 12345)) T) := by
  refine R_ret 13 (pcr := 22) (v := some (.int ((((up M 1 15 (((M 1 15) * 1103515245) + 12345)) 1 15).toUInt32 >>> (Int32.toUInt32 8 &&& Int32.toUInt32 31)).toInt32))) (h' := mk (up M 1 15 (((M 1 15) * 1103515245) + 12345)) T) (fun _ => rfl) ?_
  exact ⟨rfl, rfl⟩
set_option maxRecDepth 100000 in
set_option maxHeartbeats 4000000 in
theorem c_addByte {ro : xRO} {d : Nat} {M : xM} {T : Nat} {TC : Nat} (hTC : M 1 8 = nI TC) (h60 : TC < 60) {b : Int32} : Rn ro d M_X0_addByte 0 [some (.ref 4), some (.int b)] [] (mk M T) (fun r h => r = none ∧ h = mk (up (up M 12 TC b) 1 8 (nI (TC + 1))) T) := by
  refine R_go 2 (pc' := 4) (L' := [some (.ref 4), some (.int b)]) (st' := [.int (M 1 8)]) (h' := mk M T) (fun _ => rfl) ?_
  refine R_top (y := nI TC) (hTC) ?_
  refine R_if 1 (c := (nI TC) < 0) (t := 39) (f := 7) (L' := [some (.ref 4), some (.int b)]) (st' := []) (h' := mk M T) (fun _ => rfl) (fun h1 => ?_) (fun h1 => ?_)
  · replace h1 : TC < 0 := (nI_ltI (a := TC) (b := 0) (by omega) (by omega)).mp h1
    omega
  · replace h1 : ¬ TC < 0 := fun q => h1 ((nI_ltI (a := TC) (b := 0) (by omega) (by omega)).mpr q)
    refine R_go 2 (pc' := 11) (L' := [some (.ref 4), some (.int b)]) (st' := [.int (M 1 8)]) (h' := mk M T) (fun _ => rfl) ?_
    refine R_top (y := nI TC) (hTC) ?_
    refine R_if 4 (c := 60 ≤ (nI TC)) (t := 39) (f := 19) (L' := [some (.ref 4), some (.int b)]) (st' := []) (h' := mk M T) (fun _ => rfl) (fun h2 => ?_) (fun h2 => ?_)
    · replace h2 : 60 ≤ TC := (nI_leI (a := 60) (b := TC) (by omega) (by omega)).mp h2
      omega
    · replace h2 : ¬ 60 ≤ TC := fun q => h2 ((nI_leI (a := 60) (b := TC) (by omega) (by omega)).mpr q)
      refine R_go 4 (pc' := 27) (L' := [some (.ref 4), some (.int b)]) (st' := [.int (M 1 8), .ref 15]) (h' := mk M T) (fun _ => rfl) ?_
      refine R_top (y := nI TC) (hTC) ?_
      refine R_go 1 (pc' := 28) (L' := [some (.ref 4), some (.int b)]) (st' := [.int b, .int (nI TC), .ref 15]) (h' := mk M T) (fun _ => rfl) ?_
      refine R_iast (c := 12) (n := 60) (j := TC) rfl rfl (by omega) (by decide) ?_
      refine R_go 3 (pc' := 34) (L' := [some (.ref 4), some (.int b)]) (st' := [.int ((up M 12 TC b) 1 8), .ref 4]) (h' := mk (up M 12 TC b) T) (fun _ => rfl) ?_
      refine R_top (y := nI TC) (hTC) ?_
      refine R_go 2 (pc' := 36) (L' := [some (.ref 4), some (.int b)]) (st' := [.int (nI TC + 1), .ref 4]) (h' := mk (up M 12 TC b) T) (fun _ => rfl) ?_
      refine R_top (nI_add TC 1) ?_
      refine R_ret 2 (pcr := 39) (v := none) (h' := mk (up (up M 12 TC b) 1 8 (nI (TC + 1))) T) (fun _ => rfl) ?_
      exact ⟨rfl, rfl⟩
set_option maxRecDepth 100000 in
set_option maxHeartbeats 4000000 in
theorem c_addWaiting_in {ro : xRO} {d : Nat} {M : xM} {T : Nat} {WC : Nat} (hWC : M 1 9 = nI WC) (h24 : WC < 24) {b : Int32} : Rn ro d M_X0_addWaiting 0 [some (.ref 4), some (.int b)] [] (mk M T) (fun r h => r = some (.int 1) ∧ h = mk (up (up M 13 WC b) 1 9 (nI (WC + 1))) T) := by
  refine R_go 2 (pc' := 4) (L' := [some (.ref 4), some (.int b)]) (st' := [.int (M 1 9)]) (h' := mk M T) (fun _ => rfl) ?_
  refine R_top (y := nI WC) (hWC) ?_
  refine R_if 1 (c := (nI WC) < 0) (t := 19) (f := 7) (L' := [some (.ref 4), some (.int b)]) (st' := []) (h' := mk M T) (fun _ => rfl) (fun h1 => ?_) (fun h1 => ?_)
  · replace h1 : WC < 0 := (nI_ltI (a := WC) (b := 0) (by omega) (by omega)).mp h1
    omega
  · replace h1 : ¬ WC < 0 := fun q => h1 ((nI_ltI (a := WC) (b := 0) (by omega) (by omega)).mpr q)
    refine R_go 2 (pc' := 11) (L' := [some (.ref 4), some (.int b)]) (st' := [.int (M 1 9)]) (h' := mk M T) (fun _ => rfl) ?_
    refine R_top (y := nI WC) (hWC) ?_
    refine R_if 4 (c := (nI WC) < 24) (t := 21) (f := 19) (L' := [some (.ref 4), some (.int b)]) (st' := []) (h' := mk M T) (fun _ => rfl) (fun h2 => ?_) (fun h2 => ?_)
    · replace h2 : WC < 24 := (nI_ltI (a := WC) (b := 24) (by omega) (by omega)).mp h2
      refine R_go 4 (pc' := 29) (L' := [some (.ref 4), some (.int b)]) (st' := [.int (M 1 9), .ref 16]) (h' := mk M T) (fun _ => rfl) ?_
      refine R_top (y := nI WC) (hWC) ?_
      refine R_go 1 (pc' := 30) (L' := [some (.ref 4), some (.int b)]) (st' := [.int b, .int (nI WC), .ref 16]) (h' := mk M T) (fun _ => rfl) ?_
      refine R_iast (c := 13) (n := 24) (j := WC) rfl rfl (by omega) (by decide) ?_
      refine R_go 3 (pc' := 36) (L' := [some (.ref 4), some (.int b)]) (st' := [.int ((up M 13 WC b) 1 9), .ref 4]) (h' := mk (up M 13 WC b) T) (fun _ => rfl) ?_
      refine R_top (y := nI WC) (hWC) ?_
      refine R_go 2 (pc' := 38) (L' := [some (.ref 4), some (.int b)]) (st' := [.int (nI WC + 1), .ref 4]) (h' := mk (up M 13 WC b) T) (fun _ => rfl) ?_
      refine R_top (nI_add WC 1) ?_
      refine R_ret 3 (pcr := 42) (v := some (.int 1)) (h' := mk (up (up M 13 WC b) 1 9 (nI (WC + 1))) T) (fun _ => rfl) ?_
      exact ⟨rfl, rfl⟩
    · replace h2 : ¬ WC < 24 := fun q => h2 ((nI_ltI (a := WC) (b := 24) (by omega) (by omega)).mpr q)
      omega
set_option maxRecDepth 100000 in
set_option maxHeartbeats 4000000 in
theorem c_addWaiting_out {ro : xRO} {d : Nat} {M : xM} {T : Nat} (hWC : M 1 9 = nI 24) {b : Int32} : Rn ro d M_X0_addWaiting 0 [some (.ref 4), some (.int b)] [] (mk M T) (fun r h => r = some (.int 0) ∧ h = mk M T) := by
  refine R_go 2 (pc' := 4) (L' := [some (.ref 4), some (.int b)]) (st' := [.int (M 1 9)]) (h' := mk M T) (fun _ => rfl) ?_
  refine R_top (y := 24) (hWC) ?_
  refine R_go 3 (pc' := 11) (L' := [some (.ref 4), some (.int b)]) (st' := [.int (M 1 9)]) (h' := mk M T) (fun _ => rfl) ?_
  refine R_top (y := 24) (hWC) ?_
  refine R_ret 6 (pcr := 20) (v := some (.int 0)) (h' := mk M T) (fun _ => rfl) ?_
  exact ⟨rfl, rfl⟩
set_option maxRecDepth 100000 in
set_option maxHeartbeats 4000000 in
theorem c_addPane {ro : xRO} {d : Nat} {M : xM} {T : Nat} {P : Nat} (hP : M 1 6 = nI P) (h8 : P < 8) : Rn ro (d + 1) M_X0_addPane 0 [some (.ref 4)] [] (mk M T) (fun r h => r = some (.ref (3 + P + 3)) ∧ h = mk (up M 1 6 (nI (P + 1))) T) := by
  refine R_go 2 (pc' := 4) (L' := [some (.ref 4)]) (st' := [.int (M 1 6)]) (h' := mk M T) (fun _ => rfl) ?_
  refine R_top (y := nI P) (hP) ?_
  refine R_if 2 (c := (nI P) < 8) (t := 11) (f := 9) (L' := [some (.ref 4)]) (st' := []) (h' := mk M T) (fun _ => rfl) (fun h1 => ?_) (fun h1 => ?_)
  · replace h1 : P < 8 := (nI_ltI (a := P) (b := 8) (by omega) (by omega)).mp h1
    refine R_go 3 (pc' := 16) (L' := [some (.ref 4)]) (st' := [.int (M 1 6), .ref 4]) (h' := mk M T) (fun _ => rfl) ?_
    refine R_top (y := nI P) (hP) ?_
    refine R_go 2 (pc' := 18) (L' := [some (.ref 4)]) (st' := [.int (nI P + 1), .ref 4]) (h' := mk M T) (fun _ => rfl) ?_
    refine R_top (nI_add P 1) ?_
    refine R_go 4 (pc' := 26) (L' := [some (.ref 4)]) (st' := [.int ((up M 1 6 (nI (P + 1))) 1 6), .ref 4]) (h' := mk (up M 1 6 (nI (P + 1))) T) (fun _ => rfl) ?_
    refine R_top (y := nI (P + 1)) (rfl) ?_
    refine R_go 2 (pc' := 28) (L' := [some (.ref 4)]) (st' := [.int (nI (P + 1) - 1), .ref 4]) (h' := mk (up M 1 6 (nI (P + 1))) T) (fun _ => rfl) ?_
    refine R_top (nI_pred P) ?_
    refine R_callD (i := .invokevirtual 82) (kd := 0) (y := M_X0_paneAt) (as := [.ref 4, .int (nI P)]) (r := []) (L0 := [some (.ref 4), some (.int (nI P))]) (v := some (.ref (3 + P + 3))) (h' := mk (up M 1 6 (nI (P + 1))) T) (pc' := 31) (st' := [.ref (3 + P + 3)]) rfl rfl rfl rfl rfl rfl ((c_paneAt_in (P := P + 1) (n := P) rfl (by omega) (by omega))) ?_
    refine R_ret 1 (pcr := 31) (v := some (.ref (3 + P + 3))) (h' := mk (up M 1 6 (nI (P + 1))) T) (fun _ => rfl) ?_
    exact ⟨rfl, rfl⟩
  · replace h1 : ¬ P < 8 := fun q => h1 ((nI_ltI (a := P) (b := 8) (by omega) (by omega)).mpr q)
    omega
set_option maxRecDepth 100000 in
set_option maxHeartbeats 4000000 in
theorem c_addPane_full {ro : xRO} {d : Nat} {M : xM} {T : Nat} (hP : M 1 6 = nI 8) : Rn ro (d + 1) M_X0_addPane 0 [some (.ref 4)] [] (mk M T) (fun r h => r = some .null ∧ h = mk M T) := by
  refine R_go 2 (pc' := 4) (L' := [some (.ref 4)]) (st' := [.int (M 1 6)]) (h' := mk M T) (fun _ => rfl) ?_
  refine R_top (y := 8) (hP) ?_
  refine R_ret 4 (pcr := 10) (v := some (.null)) (h' := mk M T) (fun _ => rfl) ?_
  exact ⟨rfl, rfl⟩
set_option maxRecDepth 100000 in
set_option maxHeartbeats 4000000 in
theorem c_error_1 {ro : xRO} {d : Nat} {M : xM} {T : Nat}  : Rn ro d M_X7_error 0 [some (.ref 3), some (.int 1)] [] (mk M T) (fun r h => r = some (.int (-1000000001)) ∧ h = mk (up M 60 1 (M 60 1 + 1)) T) := by
  refine R_ret 19 (pcr := 27) (v := some (.int (-1000000001))) (h' := mk (up M 60 1 ((M 60 1) + 1)) T) (fun _ => rfl) ?_
  exact ⟨rfl, rfl⟩
set_option maxRecDepth 100000 in
set_option maxHeartbeats 4000000 in
theorem c_error_2 {ro : xRO} {d : Nat} {M : xM} {T : Nat}  : Rn ro d M_X7_error 0 [some (.ref 3), some (.int 2)] [] (mk M T) (fun r h => r = some (.int (-1000000002)) ∧ h = mk (up M 60 2 (M 60 2 + 1)) T) := by
  refine R_ret 19 (pcr := 27) (v := some (.int (-1000000002))) (h' := mk (up M 60 2 ((M 60 2) + 1)) T) (fun _ => rfl) ?_
  exact ⟨rfl, rfl⟩
set_option maxRecDepth 100000 in
set_option maxHeartbeats 4000000 in
theorem c_error_3 {ro : xRO} {d : Nat} {M : xM} {T : Nat}  : Rn ro d M_X7_error 0 [some (.ref 3), some (.int 3)] [] (mk M T) (fun r h => r = some (.int (-1000000003)) ∧ h = mk (up M 60 3 (M 60 3 + 1)) T) := by
  refine R_ret 19 (pcr := 27) (v := some (.int (-1000000003))) (h' := mk (up M 60 3 ((M 60 3) + 1)) T) (fun _ => rfl) ?_
  exact ⟨rfl, rfl⟩
set_option maxRecDepth 100000 in
set_option maxHeartbeats 4000000 in
theorem c_error_4 {ro : xRO} {d : Nat} {M : xM} {T : Nat}  : Rn ro d M_X7_error 0 [some (.ref 3), some (.int 4)] [] (mk M T) (fun r h => r = some (.int (-1000000004)) ∧ h = mk (up M 60 4 (M 60 4 + 1)) T) := by
  refine R_ret 19 (pcr := 27) (v := some (.int (-1000000004))) (h' := mk (up M 60 4 ((M 60 4) + 1)) T) (fun _ => rfl) ?_
  exact ⟨rfl, rfl⟩
set_option maxRecDepth 100000 in
set_option maxHeartbeats 4000000 in
theorem c_error_5 {ro : xRO} {d : Nat} {M : xM} {T : Nat}  : Rn ro d M_X7_error 0 [some (.ref 3), some (.int 5)] [] (mk M T) (fun r h => r = some (.int (-1000000005)) ∧ h = mk (up M 60 5 (M 60 5 + 1)) T) := by
  refine R_ret 19 (pcr := 27) (v := some (.int (-1000000005))) (h' := mk (up M 60 5 ((M 60 5) + 1)) T) (fun _ => rfl) ?_
  exact ⟨rfl, rfl⟩
set_option maxRecDepth 100000 in
set_option maxHeartbeats 4000000 in
theorem c_error_6 {ro : xRO} {d : Nat} {M : xM} {T : Nat}  : Rn ro d M_X7_error 0 [some (.ref 3), some (.int 6)] [] (mk M T) (fun r h => r = some (.int (-1000000006)) ∧ h = mk (up M 60 6 (M 60 6 + 1)) T) := by
  refine R_ret 19 (pcr := 27) (v := some (.int (-1000000006))) (h' := mk (up M 60 6 ((M 60 6) + 1)) T) (fun _ => rfl) ?_
  exact ⟨rfl, rfl⟩
set_option maxRecDepth 100000 in
set_option maxHeartbeats 4000000 in
theorem c_sheetAt_in {ro : xRO} {d : Nat} {M : xM} {T : Nat} {n : Nat} (hn : n < 4) : Rn ro d M_X7_sheetAt 0 [some (.ref 3), some (.int (nI n))] [] (mk M T) (fun r h => r = some (.ref (52 + 2 * n + 3)) ∧ h = mk M T) := by
  refine R_if 2 (c := (nI n) < 0) (t := 22) (f := 4) (L' := [some (.ref 3), some (.int (nI n))]) (st' := []) (h' := mk M T) (fun _ => rfl) (fun h1 => ?_) (fun h1 => ?_)
  · replace h1 : n < 0 := (nI_ltI (a := n) (b := 0) (by omega) (by omega)).mp h1
    omega
  · replace h1 : ¬ n < 0 := fun q => h1 ((nI_ltI (a := n) (b := 0) (by omega) (by omega)).mpr q)
    refine R_if 5 (c := 4 ≤ (nI n)) (t := 22) (f := 13) (L' := [some (.ref 3), some (.int (nI n))]) (st' := []) (h' := mk M T) (fun _ => rfl) (fun h2 => ?_) (fun h2 => ?_)
    · replace h2 : 4 ≤ n := (nI_leI (a := 4) (b := n) (by omega) (by omega)).mp h2
      omega
    · replace h2 : ¬ 4 ≤ n := fun q => h2 ((nI_leI (a := 4) (b := n) (by omega) (by omega)).mpr q)
      refine R_go 3 (pc' := 18) (L' := [some (.ref 3), some (.int (nI n))]) (st' := [.int (nI n), .ref 54]) (h' := mk M T) (fun _ => rfl) ?_
      refine R_aald_51 (j := n) rfl (by omega) ?_
      refine R_ret 2 (pcr := 23) (v := some (.ref (52 + 2 * n + 3))) (h' := mk M T) (fun _ => rfl) ?_
      exact ⟨rfl, rfl⟩
set_option maxRecDepth 100000 in
set_option maxHeartbeats 4000000 in
theorem c_sheetAt_out {ro : xRO} {d : Nat} {M : xM} {T : Nat} {i : Int32} (hi : ¬ (0 ≤ i ∧ i < 4)) : Rn ro d M_X7_sheetAt 0 [some (.ref 3), some (.int i)] [] (mk M T) (fun r h => r = some .null ∧ h = mk M T) := by
  refine R_if 2 (c := i < 0) (t := 22) (f := 4) (L' := [some (.ref 3), some (.int i)]) (st' := []) (h' := mk M T) (fun _ => rfl) (fun h1 => ?_) (fun h1 => ?_)
  · refine R_ret 2 (pcr := 23) (v := some (.null)) (h' := mk M T) (fun _ => rfl) ?_
    exact ⟨rfl, rfl⟩
  · refine R_if 5 (c := 4 ≤ i) (t := 22) (f := 13) (L' := [some (.ref 3), some (.int i)]) (st' := []) (h' := mk M T) (fun _ => rfl) (fun h2 => ?_) (fun h2 => ?_)
    · refine R_ret 2 (pcr := 23) (v := some (.null)) (h' := mk M T) (fun _ => rfl) ?_
      exact ⟨rfl, rfl⟩
    · exact absurd ⟨k2_le h1, k2_lt h2⟩ hi
