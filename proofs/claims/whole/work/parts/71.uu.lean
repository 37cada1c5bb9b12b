/-! OPERATIONS best, share: the search of the model -/
def TX (M0 Mb : xM) (P : Nat) (st : DS) (M : xM) : Prop := FM M0 M ∧ M 61 20 = encB st.1 ∧ (∀ b, st.1 = some b → b ≤ 99999 ∧ ∀ j, j < P → M 74 j = nI (st.2 j)) ∧ M 61 7 = 0 ∧ (∀ c, c ≠ 61 → c ≠ 70 → c ≠ 71 → c ≠ 72 → c ≠ 74 → M c = Mb c) ∧ ∀ j, j ≠ 20 → M 61 j = Mb 61 j
def pM (M : xM) (pl i : Nat) (M2 : xM) : Prop := (∀ c, c ≠ 70 → c ≠ 71 → c ≠ 72 → M2 c = M c) ∧ M2 72 = up M 72 pl (nI i) 72
set_option maxRecDepth 100000 in
set_option maxHeartbeats 4000000 in
theorem lp_tcp {ro : xRO} {d : Nat} {M : xM} {T : Nat}  {P hr sm : Nat} {sn : Int32} (h6P : P ≤ 6) : ∀ (k : Nat) (i : Nat), i + k = P →  Rn ro (d + 9) M_X8_tries 29 [some (.ref 64), some (.int (nI P)), some (.int sn), some (.int (nI hr)), some (.int (nI sm)), some (.int (nI i)), none, none, none] [] (mk (caM M 72 74 i) T) (fun r h => r = none ∧ h = mk (caM M 72 74 P) T) := by
  intro k
  induction k with
  | zero =>
    intro i hi
    obtain rfl : i = P := by omega
    refine R_if 3 (c := (nI i) ≤ (nI i)) (t := 55) (f := 35) (L' := [some (.ref 64), some (.int (nI i)), some (.int sn), some (.int (nI hr)), some (.int (nI sm)), some (.int (nI i)), none, none, none]) (st' := []) (h' := mk (caM M 72 74 i) T) (fun _ => rfl) (fun g1 => ?_) (fun g1 => ?_)
    · replace g1 : i ≤ i := (nI_leI (a := i) (b := i) (by omega) (by omega)).mp g1
      refine R_ret 1 (pcr := 55) (v := none) (h' := mk (caM M 72 74 i) T) (fun _ => rfl) ?_
      exact ⟨rfl, rfl⟩
    · replace g1 : ¬ i ≤ i := fun q => g1 ((nI_leI (a := i) (b := i) (by omega) (by omega)).mpr q)
      omega
  | succ k ih =>
    intro i hi
    refine R_if 3 (c := (nI P) ≤ (nI i)) (t := 55) (f := 35) (L' := [some (.ref 64), some (.int (nI P)), some (.int sn), some (.int (nI hr)), some (.int (nI sm)), some (.int (nI i)), none, none, none]) (st' := []) (h' := mk (caM M 72 74 i) T) (fun _ => rfl) (fun g1 => ?_) (fun g1 => ?_)
    · replace g1 : P ≤ i := (nI_leI (a := P) (b := i) (by omega) (by omega)).mp g1
      omega
    · replace g1 : ¬ P ≤ i := fun q => g1 ((nI_leI (a := P) (b := i) (by omega) (by omega)).mpr q)
      refine R_go 6 (pc' := 47) (L' := [some (.ref 64), some (.int (nI P)), some (.int sn), some (.int (nI hr)), some (.int (nI sm)), some (.int (nI i)), none, none, none]) (st' := [.int (nI i), .ref 75, .int (nI i), .ref 77]) (h' := mk (caM M 72 74 i) T) (fun _ => rfl) ?_
      refine R_iald (c := 72) (n := 8) (j := i) rfl rfl (by omega) (by decide) ?_
      refine R_iast (c := 74) (n := 6) (j := i) rfl rfl (by omega) (by decide) ?_
      refine R_go 1 (pc' := 52) (L' := [some (.ref 64), some (.int (nI P)), some (.int sn), some (.int (nI hr)), some (.int (nI sm)), some (.int ((nI i) + 1)), none, none, none]) (st' := []) (h' := mk (up (caM M 72 74 i) 74 i ((caM M 72 74 i) 72 i)) T) (fun _ => rfl) ?_
      rw [nI_1]
      refine R_go 1 (pc' := 29) (L' := [some (.ref 64), some (.int (nI P)), some (.int sn), some (.int (nI hr)), some (.int (nI sm)), some (.int (nI (i + 1))), none, none, none]) (st' := []) (h' := mk (up (caM M 72 74 i) 74 i ((caM M 72 74 i) 72 i)) T) (fun _ => rfl) ?_
      exact ih (i + 1) (by omega)
set_option maxRecDepth 100000 in
set_option maxHeartbeats 4000000 in
theorem tk_leaf_n {ro : xRO} {d : Nat} {M : xM} {T : Nat}  {M0 Mb : xM} (h0 : Rel M0) {P : Nat} (hP0 : M0 62 6 = nI P) (h6P : P ≤ 6) {pl hr sm : Nat} {sn : Int32} (hf : FM M0 M) (s9 : sm ≤ 99999) (hb : M 61 20 = -1)  : Rn ro (d + 9) M_X8_tries 0 [some (.ref 64), some (.int (nI P)), some (.int sn), some (.int (nI hr)), some (.int (nI sm)), none, none, none, none] [] (mk M T) (fun r h => r = none ∧ h = mk (caM (up M 61 20 (nI sm)) 72 74 P) T) := by
  refine R_go 5 (pc' := 8) (L' := [some (.ref 64), some (.int (nI P)), some (.int sn), some (.int (nI hr)), some (.int (nI sm)), none, none, none, none]) (st' := [.int (M 62 6), .int (nI P)]) (h' := mk M T) (fun _ => rfl) ?_
  refine R_top (y := nI P) (fm_P hf hP0) ?_
  refine R_ifn 1 (c := (nI P) = (nI P)) (t := 56) (f := 11) (L' := [some (.ref 64), some (.int (nI P)), some (.int sn), some (.int (nI hr)), some (.int (nI sm)), none, none, none, none]) (st' := []) (h' := mk M T) (fun _ => rfl) (fun g1 => ?_) (fun g1 => ?_)
  · replace g1 : ¬ P = P := fun q => g1 ((nI_eq (a := P) (b := P) (by omega) (by omega)).mpr q)
    omega
  · replace g1 : P = P := (nI_eq (a := P) (b := P) (by omega) (by omega)).mp g1
    refine R_go 3 (pc' := 17) (L' := [some (.ref 64), some (.int (nI P)), some (.int sn), some (.int (nI hr)), some (.int (nI sm)), none, none, none, none]) (st' := [.int (M 61 20), .int (nI sm)]) (h' := mk M T) (fun _ => rfl) ?_
    refine R_top (y := -1) (hb) ?_
    refine R_if 1 (c := (nI sm) ≤ (-1)) (t := 55) (f := 20) (L' := [some (.ref 64), some (.int (nI P)), some (.int sn), some (.int (nI hr)), some (.int (nI sm)), none, none, none, none]) (st' := []) (h' := mk M T) (fun _ => rfl) (fun g2 => ?_) (fun g2 => ?_)
    · exact absurd g2 (nI_nneg (by omega))
    · refine R_go 5 (pc' := 29) (L' := [some (.ref 64), some (.int (nI P)), some (.int sn), some (.int (nI hr)), some (.int (nI sm)), some (.int 0), none, none, none]) (st' := []) (h' := mk (up M 61 20 (nI sm)) T) (fun _ => rfl) ?_
      exact lp_tcp (M := up M 61 20 (nI sm)) h6P P 0 (Nat.zero_add P)
set_option maxRecDepth 100000 in
set_option maxHeartbeats 4000000 in
theorem tk_leaf_b {ro : xRO} {d : Nat} {M : xM} {T : Nat}  {M0 Mb : xM} (h0 : Rel M0) {P : Nat} (hP0 : M0 62 6 = nI P) (h6P : P ≤ 6) {pl hr sm : Nat} {sn : Int32} (hf : FM M0 M) (s9 : sm ≤ 99999) {b : Nat} (hb : M 61 20 = nI b) (b9 : b ≤ 99999) (hs : b < sm)  : Rn ro (d + 9) M_X8_tries 0 [some (.ref 64), some (.int (nI P)), some (.int sn), some (.int (nI hr)), some (.int (nI sm)), none, none, none, none] [] (mk M T) (fun r h => r = none ∧ h = mk (caM (up M 61 20 (nI sm)) 72 74 P) T) := by
  refine R_go 5 (pc' := 8) (L' := [some (.ref 64), some (.int (nI P)), some (.int sn), some (.int (nI hr)), some (.int (nI sm)), none, none, none, none]) (st' := [.int (M 62 6), .int (nI P)]) (h' := mk M T) (fun _ => rfl) ?_
  refine R_top (y := nI P) (fm_P hf hP0) ?_
  refine R_ifn 1 (c := (nI P) = (nI P)) (t := 56) (f := 11) (L' := [some (.ref 64), some (.int (nI P)), some (.int sn), some (.int (nI hr)), some (.int (nI sm)), none, none, none, none]) (st' := []) (h' := mk M T) (fun _ => rfl) (fun g1 => ?_) (fun g1 => ?_)
  · replace g1 : ¬ P = P := fun q => g1 ((nI_eq (a := P) (b := P) (by omega) (by omega)).mpr q)
    omega
  · replace g1 : P = P := (nI_eq (a := P) (b := P) (by omega) (by omega)).mp g1
    refine R_go 3 (pc' := 17) (L' := [some (.ref 64), some (.int (nI P)), some (.int sn), some (.int (nI hr)), some (.int (nI sm)), none, none, none, none]) (st' := [.int (M 61 20), .int (nI sm)]) (h' := mk M T) (fun _ => rfl) ?_
    refine R_top (y := nI b) (hb) ?_
    refine R_if 1 (c := (nI sm) ≤ (nI b)) (t := 55) (f := 20) (L' := [some (.ref 64), some (.int (nI P)), some (.int sn), some (.int (nI hr)), some (.int (nI sm)), none, none, none, none]) (st' := []) (h' := mk M T) (fun _ => rfl) (fun g2 => ?_) (fun g2 => ?_)
    · replace g2 : sm ≤ b := (nI_leI (a := sm) (b := b) (by omega) (by omega)).mp g2
      omega
    · replace g2 : ¬ sm ≤ b := fun q => g2 ((nI_leI (a := sm) (b := b) (by omega) (by omega)).mpr q)
      refine R_go 5 (pc' := 29) (L' := [some (.ref 64), some (.int (nI P)), some (.int sn), some (.int (nI hr)), some (.int (nI sm)), some (.int 0), none, none, none]) (st' := []) (h' := mk (up M 61 20 (nI sm)) T) (fun _ => rfl) ?_
      exact lp_tcp (M := up M 61 20 (nI sm)) h6P P 0 (Nat.zero_add P)
set_option maxRecDepth 100000 in
set_option maxHeartbeats 4000000 in
theorem tk_leaf_o {ro : xRO} {d : Nat} {M : xM} {T : Nat} {Q : Option Value → xH → Prop} {M0 Mb : xM} (h0 : Rel M0) {P : Nat} (hP0 : M0 62 6 = nI P) (h6P : P ≤ 6) {pl hr sm : Nat} {sn : Int32} (hf : FM M0 M) (s9 : sm ≤ 99999) {b : Nat} (hb : M 61 20 = nI b) (b9 : b ≤ 99999) (hs : ¬ b < sm) (k1 : Q none (mk M T)) : Rn ro (d + 9) M_X8_tries 0 [some (.ref 64), some (.int (nI P)), some (.int sn), some (.int (nI hr)), some (.int (nI sm)), none, none, none, none] [] (mk M T) Q := by
  refine R_go 5 (pc' := 8) (L' := [some (.ref 64), some (.int (nI P)), some (.int sn), some (.int (nI hr)), some (.int (nI sm)), none, none, none, none]) (st' := [.int (M 62 6), .int (nI P)]) (h' := mk M T) (fun _ => rfl) ?_
  refine R_top (y := nI P) (fm_P hf hP0) ?_
  refine R_ifn 1 (c := (nI P) = (nI P)) (t := 56) (f := 11) (L' := [some (.ref 64), some (.int (nI P)), some (.int sn), some (.int (nI hr)), some (.int (nI sm)), none, none, none, none]) (st' := []) (h' := mk M T) (fun _ => rfl) (fun g1 => ?_) (fun g1 => ?_)
  · replace g1 : ¬ P = P := fun q => g1 ((nI_eq (a := P) (b := P) (by omega) (by omega)).mpr q)
    omega
  · replace g1 : P = P := (nI_eq (a := P) (b := P) (by omega) (by omega)).mp g1
    refine R_go 3 (pc' := 17) (L' := [some (.ref 64), some (.int (nI P)), some (.int sn), some (.int (nI hr)), some (.int (nI sm)), none, none, none, none]) (st' := [.int (M 61 20), .int (nI sm)]) (h' := mk M T) (fun _ => rfl) ?_
    refine R_top (y := nI b) (hb) ?_
    refine R_if 1 (c := (nI sm) ≤ (nI b)) (t := 55) (f := 20) (L' := [some (.ref 64), some (.int (nI P)), some (.int sn), some (.int (nI hr)), some (.int (nI sm)), none, none, none, none]) (st' := []) (h' := mk M T) (fun _ => rfl) (fun g2 => ?_) (fun g2 => ?_)
    · replace g2 : sm ≤ b := (nI_leI (a := sm) (b := b) (by omega) (by omega)).mp g2
      refine R_ret 1 (pcr := 55) (v := none) (h' := mk M T) (fun _ => rfl) ?_
      exact k1
    · replace g2 : ¬ sm ≤ b := fun q => g2 ((nI_leI (a := sm) (b := b) (by omega) (by omega)).mpr q)
      omega
set_option maxRecDepth 100000 in
set_option maxHeartbeats 4000000 in
theorem tk_in {ro : xRO} {d : Nat} {M : xM} {T : Nat} {Q : Option Value → xH → Prop} {M0 Mb : xM} (h0 : Rel M0) {P : Nat} (hP0 : M0 62 6 = nI P) (h6P : P ≤ 6) {pl hr sm : Nat} {sn : Int32} (hf : FM M0 M) (hpl : pl < P) (k1 : Rn ro (d + 9) M_X8_tries 59 [some (.ref 64), some (.int (nI pl)), some (.int sn), some (.int (nI hr)), some (.int (nI sm)), some (.int 0), none, none, none] [] (mk M T) Q) : Rn ro (d + 9) M_X8_tries 0 [some (.ref 64), some (.int (nI pl)), some (.int sn), some (.int (nI hr)), some (.int (nI sm)), none, none, none, none] [] (mk M T) Q := by
  refine R_go 5 (pc' := 8) (L' := [some (.ref 64), some (.int (nI pl)), some (.int sn), some (.int (nI hr)), some (.int (nI sm)), none, none, none, none]) (st' := [.int (M 62 6), .int (nI pl)]) (h' := mk M T) (fun _ => rfl) ?_
  refine R_top (y := nI P) (fm_P hf hP0) ?_
  refine R_ifn 1 (c := (nI pl) = (nI P)) (t := 56) (f := 11) (L' := [some (.ref 64), some (.int (nI pl)), some (.int sn), some (.int (nI hr)), some (.int (nI sm)), none, none, none, none]) (st' := []) (h' := mk M T) (fun _ => rfl) (fun g1 => ?_) (fun g1 => ?_)
  · replace g1 : ¬ pl = P := fun q => g1 ((nI_eq (a := pl) (b := P) (by omega) (by omega)).mpr q)
    refine R_go 2 (pc' := 59) (L' := [some (.ref 64), some (.int (nI pl)), some (.int sn), some (.int (nI hr)), some (.int (nI sm)), some (.int 0), none, none, none]) (st' := []) (h' := mk M T) (fun _ => rfl) ?_
    exact k1
  · replace g1 : pl = P := (nI_eq (a := pl) (b := P) (by omega) (by omega)).mp g1
    omega
set_option maxRecDepth 100000 in
set_option maxHeartbeats 4000000 in
theorem tk_out {ro : xRO} {d : Nat} {M : xM} {T : Nat} {Q : Option Value → xH → Prop} {M0 Mb : xM} (h0 : Rel M0) {P : Nat} (hP0 : M0 62 6 = nI P) (h6P : P ≤ 6) {pl hr sm : Nat} {sn : Int32} (hf : FM M0 M) {w1 w2 w3 : Option Value} (k1 : Q none (mk M T)) : Rn ro (d + 9) M_X8_tries 59 [some (.ref 64), some (.int (nI pl)), some (.int sn), some (.int (nI hr)), some (.int (nI sm)), some (.int (nI P)), w1, w2, w3] [] (mk M T) Q := by
  refine R_go 5 (pc' := 68) (L' := [some (.ref 64), some (.int (nI pl)), some (.int sn), some (.int (nI hr)), some (.int (nI sm)), some (.int (nI P)), w1, w2, w3]) (st' := [.int (M 62 6), .int (nI P)]) (h' := mk M T) (fun _ => rfl) ?_
  refine R_top (y := nI P) (fm_P hf hP0) ?_
  refine R_if 1 (c := (nI P) ≤ (nI P)) (t := 145) (f := 71) (L' := [some (.ref 64), some (.int (nI pl)), some (.int sn), some (.int (nI hr)), some (.int (nI sm)), some (.int (nI P)), w1, w2, w3]) (st' := []) (h' := mk M T) (fun _ => rfl) (fun g1 => ?_) (fun g1 => ?_)
  · replace g1 : P ≤ P := (nI_leI (a := P) (b := P) (by omega) (by omega)).mp g1
    refine R_ret 1 (pcr := 145) (v := none) (h' := mk M T) (fun _ => rfl) ?_
    exact k1
  · replace g1 : ¬ P ≤ P := fun q => g1 ((nI_leI (a := P) (b := P) (by omega) (by omega)).mpr q)
    omega
set_option maxRecDepth 100000 in
set_option maxHeartbeats 4000000 in
theorem tk_skip {ro : xRO} {d : Nat} {M : xM} {T : Nat} {Q : Option Value → xH → Prop} {M0 Mb : xM} (h0 : Rel M0) {P : Nat} (hP0 : M0 62 6 = nI P) (h6P : P ≤ 6) {pl hr sm : Nat} {sn : Int32} (hf : FM M0 M) {i : Nat} (hi : i < P) (hu : ¬ ((sn >>> ((nI i) &&& 31)) &&& 1) = 0) {w1 w2 w3 : Option Value} (k1 : Rn ro (d + 9) M_X8_tries 59 [some (.ref 64), some (.int (nI pl)), some (.int sn), some (.int (nI hr)), some (.int (nI sm)), some (.int (nI (i + 1))), w1, w2, w3] [] (mk M T) Q) : Rn ro (d + 9) M_X8_tries 59 [some (.ref 64), some (.int (nI pl)), some (.int sn), some (.int (nI hr)), some (.int (nI sm)), some (.int (nI i)), w1, w2, w3] [] (mk M T) Q := by
  refine R_go 5 (pc' := 68) (L' := [some (.ref 64), some (.int (nI pl)), some (.int sn), some (.int (nI hr)), some (.int (nI sm)), some (.int (nI i)), w1, w2, w3]) (st' := [.int (M 62 6), .int (nI i)]) (h' := mk M T) (fun _ => rfl) ?_
  refine R_top (y := nI P) (fm_P hf hP0) ?_
  refine R_if 1 (c := (nI P) ≤ (nI i)) (t := 145) (f := 71) (L' := [some (.ref 64), some (.int (nI pl)), some (.int sn), some (.int (nI hr)), some (.int (nI sm)), some (.int (nI i)), w1, w2, w3]) (st' := []) (h' := mk M T) (fun _ => rfl) (fun g1 => ?_) (fun g1 => ?_)
  · replace g1 : P ≤ i := (nI_leI (a := P) (b := i) (by omega) (by omega)).mp g1
    omega
  · replace g1 : ¬ P ≤ i := fun q => g1 ((nI_leI (a := P) (b := i) (by omega) (by omega)).mpr q)
    refine R_ifn 6 (c := ((sn >>> ((nI i) &&& 31)) &&& 1) = 0) (t := 139) (f := 80) (L' := [some (.ref 64), some (.int (nI pl)), some (.int sn), some (.int (nI hr)), some (.int (nI sm)), some (.int (nI i)), w1, w2, w3]) (st' := []) (h' := mk M T) (fun _ => rfl) (fun g2 => ?_) (fun g2 => ?_)
    · refine R_go 1 (pc' := 142) (L' := [some (.ref 64), some (.int (nI pl)), some (.int sn), some (.int (nI hr)), some (.int (nI sm)), some (.int ((nI i) + 1)), w1, w2, w3]) (st' := []) (h' := mk M T) (fun _ => rfl) ?_
      rw [nI_1]
      refine R_go 1 (pc' := 59) (L' := [some (.ref 64), some (.int (nI pl)), some (.int sn), some (.int (nI hr)), some (.int (nI sm)), some (.int (nI (i + 1))), w1, w2, w3]) (st' := []) (h' := mk M T) (fun _ => rfl) ?_
      exact k1
    · exact absurd g2 (hu)
set_option maxRecDepth 100000 in
set_option maxHeartbeats 4000000 in
theorem tk_rec {ro : xRO} {d : Nat} {M : xM} {T : Nat} {Q : Option Value → xH → Prop} {M0 Mb : xM} (h0 : Rel M0) {P : Nat} (hP0 : M0 62 6 = nI P) (h6P : P ≤ 6) {pl hr sm : Nat} {sn : Int32} (hf : FM M0 M) (hB : M 61 7 = 0) {i : Nat} (hi : i < P) (hu : ((sn >>> ((nI i) &&& 31)) &&& 1) = 0) (hpl : pl < P) (h9 : hr ≤ 200) {w1 w2 w3 : Option Value} {A : xM → Prop} (hrec : ∀ M2, FM M0 M2 → pM M pl i M2 → Rn ro (d + 8) M_X8_tries 0 [some (.ref 64), some (.int (nI (pl + 1))), some (.int (sn ||| (1 <<< ((nI i) &&& 31)))), some (.int (nI (hr + tkN M0 i (rdN M0 0 i hr)))), some (.int (nI (sm + vlN M0 i (rdN M0 0 i hr)))), none, none, none, none] [] (mk M2 T) (fun rr h => ∃ M3, A M3 ∧ rr = none ∧ h = mk M3 T)) (k1 : ∀ M3 w1 w2 w3, A M3 → Rn ro (d + 9) M_X8_tries 59 [some (.ref 64), some (.int (nI pl)), some (.int sn), some (.int (nI hr)), some (.int (nI sm)), some (.int (nI (i + 1))), w1, w2, w3] [] (mk M3 T) Q) : Rn ro (d + 9) M_X8_tries 59 [some (.ref 64), some (.int (nI pl)), some (.int sn), some (.int (nI hr)), some (.int (nI sm)), some (.int (nI i)), w1, w2, w3] [] (mk M T) Q := by
  refine R_go 5 (pc' := 68) (L' := [some (.ref 64), some (.int (nI pl)), some (.int sn), some (.int (nI hr)), some (.int (nI sm)), some (.int (nI i)), w1, w2, w3]) (st' := [.int (M 62 6), .int (nI i)]) (h' := mk M T) (fun _ => rfl) ?_
  refine R_top (y := nI P) (fm_P hf hP0) ?_
  refine R_if 1 (c := (nI P) ≤ (nI i)) (t := 145) (f := 71) (L' := [some (.ref 64), some (.int (nI pl)), some (.int sn), some (.int (nI hr)), some (.int (nI sm)), some (.int (nI i)), w1, w2, w3]) (st' := []) (h' := mk M T) (fun _ => rfl) (fun g1 => ?_) (fun g1 => ?_)
  · replace g1 : P ≤ i := (nI_leI (a := P) (b := i) (by omega) (by omega)).mp g1
    omega
  · replace g1 : ¬ P ≤ i := fun q => g1 ((nI_leI (a := P) (b := i) (by omega) (by omega)).mpr q)
    refine R_ifn 6 (c := ((sn >>> ((nI i) &&& 31)) &&& 1) = 0) (t := 139) (f := 80) (L' := [some (.ref 64), some (.int (nI pl)), some (.int sn), some (.int (nI hr)), some (.int (nI sm)), some (.int (nI i)), w1, w2, w3]) (st' := []) (h' := mk M T) (fun _ => rfl) (fun g2 => ?_) (fun g2 => ?_)
    · exact absurd (hu) g2
    · refine R_go 4 (pc' := 87) (L' := [some (.ref 64), some (.int (nI pl)), some (.int sn), some (.int (nI hr)), some (.int (nI sm)), some (.int (nI i)), w1, w2, w3]) (st' := [.int (nI i), .int (nI pl), .ref 75]) (h' := mk M T) (fun _ => rfl) ?_
      refine R_iast (c := 72) (n := 8) (j := pl) rfl rfl (by omega) (by decide) ?_
      refine R_go 3 (pc' := 92) (L' := [some (.ref 64), some (.int (nI pl)), some (.int sn), some (.int (nI hr)), some (.int (nI sm)), some (.int (nI i)), w1, w2, w3]) (st' := [.int (nI hr), .int (nI i), .ref 64]) (h' := mk (up M 72 pl (nI i)) T) (fun _ => rfl) ?_
      refine R_callD (i := .invokevirtual 159) (kd := 0) (y := M_X8_leftOf) (as := [.ref 64, .int (nI i), .int (nI hr)]) (r := []) (L0 := [some (.ref 64), some (.int (nI i)), some (.int (nI hr)), none, none, none]) (v := some (.int (nI (rdN M0 0 i hr)))) (h' := mk (up M 72 pl (nI i)) T) (pc' := 95) (st' := [.int (nI (rdN M0 0 i hr))]) rfl rfl rfl rfl rfl rfl (m_rd (M := up M 72 pl (nI i)) h0 (FM_up hf (by omega)) (B := 0) ((congrFun (up_ne (by omega)) 7).trans hB) (p := i) (by omega) (by omega)) ?_
      refine R_go 4 (pc' := 102) (L' := [some (.ref 64), some (.int (nI pl)), some (.int sn), some (.int (nI hr)), some (.int (nI sm)), some (.int (nI i)), some (.int (nI (rdN M0 0 i hr))), w2, w3]) (st' := [.int (nI (rdN M0 0 i hr)), .int (nI i), .ref 64]) (h' := mk (up M 72 pl (nI i)) T) (fun _ => rfl) ?_
      refine R_callE (i := .invokevirtual 162) (kd := 0) (y := M_X8_valueOf) (as := [.ref 64, .int (nI i), .int (nI (rdN M0 0 i hr))]) (r := []) (L0 := [some (.ref 64), some (.int (nI i)), some (.int (nI (rdN M0 0 i hr)))]) (v := fun M1 => some (.int (nI (vlN M0 i (rdN M0 0 i hr))))) (h' := fun M1 => mk M1 T) (pc' := 105) (st' := fun M1 => [.int (nI (vlN M0 i (rdN M0 0 i hr)))]) rfl rfl rfl rfl rfl rfl ((m_valueOf (M := up M 72 pl (nI i)) (p := i) (r := rdN M0 0 i hr) h0 (FM_up hf (by omega)) (by omega))) (fun M1 g3 => ?_)
      have vx1 := g3
      refine R_go 4 (pc' := 112) (L' := [some (.ref 64), some (.int (nI pl)), some (.int sn), some (.int (nI hr)), some (.int (nI sm)), some (.int (nI i)), some (.int (nI (rdN M0 0 i hr))), some (.int (nI (vlN M0 i (rdN M0 0 i hr)))), w3]) (st' := [.int (nI (rdN M0 0 i hr)), .int (nI i), .ref 64]) (h' := mk M1 T) (fun _ => rfl) ?_
      refine R_callE (i := .invokevirtual 165) (kd := 0) (y := M_X8_tookBy) (as := [.ref 64, .int (nI i), .int (nI (rdN M0 0 i hr))]) (r := []) (L0 := [some (.ref 64), some (.int (nI i)), some (.int (nI (rdN M0 0 i hr)))]) (v := fun M2 => some (.int (nI (tkN M0 i (rdN M0 0 i hr))))) (h' := fun M2 => mk M2 T) (pc' := 115) (st' := fun M2 => [.int (nI (tkN M0 i (rdN M0 0 i hr)))]) rfl rfl rfl rfl rfl rfl ((m_tookOf (M := M1) (p := i) (r := rdN M0 0 i hr) h0 (FM_VM (FM_up hf (by omega)) vx1) (by omega))) (fun M2 g4 => ?_)
      have vx2 := g4
      refine R_go 5 (pc' := 121) (L' := [some (.ref 64), some (.int (nI pl)), some (.int sn), some (.int (nI hr)), some (.int (nI sm)), some (.int (nI i)), some (.int (nI (rdN M0 0 i hr))), some (.int (nI (vlN M0 i (rdN M0 0 i hr)))), some (.int (nI (tkN M0 i (rdN M0 0 i hr))))]) (st' := [.int (nI pl + 1), .ref 64]) (h' := mk M2 T) (fun _ => rfl) ?_
      refine R_top (nI_add pl 1) ?_
      refine R_go 8 (pc' := 131) (L' := [some (.ref 64), some (.int (nI pl)), some (.int sn), some (.int (nI hr)), some (.int (nI sm)), some (.int (nI i)), some (.int (nI (rdN M0 0 i hr))), some (.int (nI (vlN M0 i (rdN M0 0 i hr)))), some (.int (nI (tkN M0 i (rdN M0 0 i hr))))]) (st' := [.int (nI hr + nI (tkN M0 i (rdN M0 0 i hr))), .int (sn ||| (1 <<< ((nI i) &&& 31))), .int (nI (pl + 1)), .ref 64]) (h' := mk M2 T) (fun _ => rfl) ?_
      refine R_top (nI_add hr (tkN M0 i (rdN M0 0 i hr))) ?_
      refine R_go 3 (pc' := 136) (L' := [some (.ref 64), some (.int (nI pl)), some (.int sn), some (.int (nI hr)), some (.int (nI sm)), some (.int (nI i)), some (.int (nI (rdN M0 0 i hr))), some (.int (nI (vlN M0 i (rdN M0 0 i hr)))), some (.int (nI (tkN M0 i (rdN M0 0 i hr))))]) (st' := [.int (nI sm + nI (vlN M0 i (rdN M0 0 i hr))), .int (nI (hr + (tkN M0 i (rdN M0 0 i hr)))), .int (sn ||| (1 <<< ((nI i) &&& 31))), .int (nI (pl + 1)), .ref 64]) (h' := mk M2 T) (fun _ => rfl) ?_
      refine R_top (nI_add sm (vlN M0 i (rdN M0 0 i hr))) ?_
      refine R_callE (i := .invokevirtual 193) (kd := 0) (y := M_X8_tries) (as := [.ref 64, .int (nI (pl + 1)), .int (sn ||| (1 <<< ((nI i) &&& 31))), .int (nI (hr + (tkN M0 i (rdN M0 0 i hr)))), .int (nI (sm + (vlN M0 i (rdN M0 0 i hr))))]) (r := []) (L0 := [some (.ref 64), some (.int (nI (pl + 1))), some (.int (sn ||| (1 <<< ((nI i) &&& 31)))), some (.int (nI (hr + (tkN M0 i (rdN M0 0 i hr))))), some (.int (nI (sm + (vlN M0 i (rdN M0 0 i hr))))), none, none, none, none]) (v := fun M3 => none) (h' := fun M3 => mk M3 T) (pc' := 139) (st' := fun M3 => []) rfl rfl rfl rfl rfl rfl (hrec M2 (FM_VM (FM_VM (FM_up hf (by omega)) vx1) vx2) ⟨fun c a1 a2 a3 => (vx2 c a1 a2).trans ((vx1 c a1 a2).trans (up_ne a3)), by rw [vx2 72 (by omega) (by omega), vx1 72 (by omega) (by omega)]⟩) (fun M3 g5 => ?_)
      have xw := g5
      refine R_go 1 (pc' := 142) (L' := [some (.ref 64), some (.int (nI pl)), some (.int sn), some (.int (nI hr)), some (.int (nI sm)), some (.int ((nI i) + 1)), some (.int (nI (rdN M0 0 i hr))), some (.int (nI (vlN M0 i (rdN M0 0 i hr)))), some (.int (nI (tkN M0 i (rdN M0 0 i hr))))]) (st' := []) (h' := mk M3 T) (fun _ => rfl) ?_
      rw [nI_1]
      refine R_go 1 (pc' := 59) (L' := [some (.ref 64), some (.int (nI pl)), some (.int sn), some (.int (nI hr)), some (.int (nI sm)), some (.int (nI (i + 1))), some (.int (nI (rdN M0 0 i hr))), some (.int (nI (vlN M0 i (rdN M0 0 i hr)))), some (.int (nI (tkN M0 i (rdN M0 0 i hr))))]) (st' := []) (h' := mk M3 T) (fun _ => rfl) ?_
      exact k1 M3 _ _ _ xw
