/-! OPERATIONS best, share: the search -/
abbrev DS : Type := Option Nat × (Nat → Nat)
def itr (f : Nat → DS → DS) : Nat → DS → DS
  | 0, s => s
  | n + 1, s => f n (itr f n s)
def bet (st : DS) (sum : Nat) (pa : Nat → Nat) : DS := match st.1 with
  | none => (some sum, pa)
  | some b => if b < sum then (some sum, pa) else st
def dfs (M0 : xM) (P : Nat) : Nat → Nat → Int32 → Nat → Nat → (Nat → Nat) → DS → DS
  | 0, _, _, _, sm, pa, st => bet st sm pa
  | k + 1, pl, sn, hr, sm, pa, st => itr (fun i s => if ((sn >>> ((nI i) &&& 31)) &&& 1) = 0 then dfs M0 P k (pl + 1) (sn ||| (1 <<< ((nI i) &&& 31))) (hr + tkN M0 i (rdN M0 0 i hr)) (sm + vlN M0 i (rdN M0 0 i hr)) (fun j => if j = pl then i else pa j) s else s) P st
theorem rd_0 {M0 : xM} {p hour : Nat} (hp : p < 8) : lftN (kdN M0 p) (mqN M0 p) (fcN M0 p) (clN M0 p) hour (cdN M0) (lpN M0) = rdN M0 0 p hour := (if_neg (bit_0 hp)).symm
def SX (M0 Mb : xM) (P : Nat) (st : DS) (M : xM) : Prop := FC M0 M ∧ Memo M0 M ∧ M 39 5 = encB st.1 ∧ (∀ b, st.1 = some b → b ≤ 99999 ∧ ∀ j, j < P → M 42 j = nI (st.2 j)) ∧ ∀ c, c ≠ 16 → c ≠ 19 → c ≠ 39 → c ≠ 40 → c ≠ 41 → c ≠ 42 → c ≠ 43 → M c = Mb c
theorem nI_nneg {n : Nat} (h : n < 2 ^ 31) : ¬ nI n ≤ (-1) := fun q => by
  have := nI_pos' h
  exact absurd (Int32.le_trans this q) (by decide)
set_option maxRecDepth 100000 in
set_option maxHeartbeats 4000000 in
theorem sk_leaf_n {ro : xRO} {d : Nat} {M : xM} {T : Nat} {Q : Option Value → xH → Prop} {M0 Mb : xM} (h0 : Rel M0) {P : Nat} (hP0 : M0 62 6 = nI P) (h6P : P ≤ 6) {pl hr sm : Nat} {sn : Int32} (hf : FC M0 M) (s9 : sm ≤ 99999) (hb : M 39 5 = -1) (k1 : Q none (mk (upA (up M 39 5 (nI sm)) 42 (va_cpy ((up M 39 5 (nI sm)) 43) ((up M 39 5 (nI sm)) 42) 0 0 8)) T)) : Rn ro (d + 9) M_X3_seek 0 [some (.ref 42), some (.ref 4), some (.int (nI P)), some (.int sn), some (.int (nI hr)), some (.int (nI sm)), none, none, none] [] (mk M T) Q := by
  refine R_go 3 (pc' := 5) (L' := [some (.ref 42), some (.ref 4), some (.int (nI P)), some (.int sn), some (.int (nI hr)), some (.int (nI sm)), none, none, none]) (st' := [.int (M 1 6), .int (nI P)]) (h' := mk M T) (fun _ => rfl) ?_
  refine R_top (y := nI P) (fc_P h0 hf hP0) ?_
  refine R_if 1 (c := (nI P) ≤ (nI P)) (t := 14) (f := 8) (L' := [some (.ref 42), some (.ref 4), some (.int (nI P)), some (.int sn), some (.int (nI hr)), some (.int (nI sm)), none, none, none]) (st' := []) (h' := mk M T) (fun _ => rfl) (fun g1 => ?_) (fun g1 => ?_)
  · replace g1 : P ≤ P := (nI_leI (a := P) (b := P) (by omega) (by omega)).mp g1
    refine R_go 3 (pc' := 20) (L' := [some (.ref 42), some (.ref 4), some (.int (nI P)), some (.int sn), some (.int (nI hr)), some (.int (nI sm)), none, none, none]) (st' := [.int (M 39 5), .int (nI sm)]) (h' := mk M T) (fun _ => rfl) ?_
    refine R_top (y := -1) (hb) ?_
    refine R_if 1 (c := (nI sm) ≤ (-1)) (t := 44) (f := 23) (L' := [some (.ref 42), some (.ref 4), some (.int (nI P)), some (.int sn), some (.int (nI hr)), some (.int (nI sm)), none, none, none]) (st' := []) (h' := mk M T) (fun _ => rfl) (fun g2 => ?_) (fun g2 => ?_)
    · exact absurd g2 (nI_nneg (by omega))
    · refine R_ret 12 (pcr := 44) (v := none) (h' := mk (upA (up M 39 5 (nI sm)) 42 (va_cpy ((up M 39 5 (nI sm)) 43) ((up M 39 5 (nI sm)) 42) 0 0 8)) T) (fun _ => rfl) ?_
      exact k1
  · replace g1 : ¬ P ≤ P := fun q => g1 ((nI_leI (a := P) (b := P) (by omega) (by omega)).mpr q)
    omega
set_option maxRecDepth 100000 in
set_option maxHeartbeats 4000000 in
theorem sk_leaf_b {ro : xRO} {d : Nat} {M : xM} {T : Nat} {Q : Option Value → xH → Prop} {M0 Mb : xM} (h0 : Rel M0) {P : Nat} (hP0 : M0 62 6 = nI P) (h6P : P ≤ 6) {pl hr sm : Nat} {sn : Int32} (hf : FC M0 M) (s9 : sm ≤ 99999) {b : Nat} (hb : M 39 5 = nI b) (b9 : b ≤ 99999) (hs : b < sm) (k1 : Q none (mk (upA (up M 39 5 (nI sm)) 42 (va_cpy ((up M 39 5 (nI sm)) 43) ((up M 39 5 (nI sm)) 42) 0 0 8)) T)) : Rn ro (d + 9) M_X3_seek 0 [some (.ref 42), some (.ref 4), some (.int (nI P)), some (.int sn), some (.int (nI hr)), some (.int (nI sm)), none, none, none] [] (mk M T) Q := by
  refine R_go 3 (pc' := 5) (L' := [some (.ref 42), some (.ref 4), some (.int (nI P)), some (.int sn), some (.int (nI hr)), some (.int (nI sm)), none, none, none]) (st' := [.int (M 1 6), .int (nI P)]) (h' := mk M T) (fun _ => rfl) ?_
  refine R_top (y := nI P) (fc_P h0 hf hP0) ?_
  refine R_if 1 (c := (nI P) ≤ (nI P)) (t := 14) (f := 8) (L' := [some (.ref 42), some (.ref 4), some (.int (nI P)), some (.int sn), some (.int (nI hr)), some (.int (nI sm)), none, none, none]) (st' := []) (h' := mk M T) (fun _ => rfl) (fun g1 => ?_) (fun g1 => ?_)
  · replace g1 : P ≤ P := (nI_leI (a := P) (b := P) (by omega) (by omega)).mp g1
    refine R_go 3 (pc' := 20) (L' := [some (.ref 42), some (.ref 4), some (.int (nI P)), some (.int sn), some (.int (nI hr)), some (.int (nI sm)), none, none, none]) (st' := [.int (M 39 5), .int (nI sm)]) (h' := mk M T) (fun _ => rfl) ?_
    refine R_top (y := nI b) (hb) ?_
    refine R_if 1 (c := (nI sm) ≤ (nI b)) (t := 44) (f := 23) (L' := [some (.ref 42), some (.ref 4), some (.int (nI P)), some (.int sn), some (.int (nI hr)), some (.int (nI sm)), none, none, none]) (st' := []) (h' := mk M T) (fun _ => rfl) (fun g2 => ?_) (fun g2 => ?_)
    · replace g2 : sm ≤ b := (nI_leI (a := sm) (b := b) (by omega) (by omega)).mp g2
      omega
    · replace g2 : ¬ sm ≤ b := fun q => g2 ((nI_leI (a := sm) (b := b) (by omega) (by omega)).mpr q)
      refine R_ret 12 (pcr := 44) (v := none) (h' := mk (upA (up M 39 5 (nI sm)) 42 (va_cpy ((up M 39 5 (nI sm)) 43) ((up M 39 5 (nI sm)) 42) 0 0 8)) T) (fun _ => rfl) ?_
      exact k1
  · replace g1 : ¬ P ≤ P := fun q => g1 ((nI_leI (a := P) (b := P) (by omega) (by omega)).mpr q)
    omega
set_option maxRecDepth 100000 in
set_option maxHeartbeats 4000000 in
theorem sk_leaf_o {ro : xRO} {d : Nat} {M : xM} {T : Nat} {Q : Option Value → xH → Prop} {M0 Mb : xM} (h0 : Rel M0) {P : Nat} (hP0 : M0 62 6 = nI P) (h6P : P ≤ 6) {pl hr sm : Nat} {sn : Int32} (hf : FC M0 M) (s9 : sm ≤ 99999) {b : Nat} (hb : M 39 5 = nI b) (b9 : b ≤ 99999) (hs : ¬ b < sm) (k1 : Q none (mk (M) T)) : Rn ro (d + 9) M_X3_seek 0 [some (.ref 42), some (.ref 4), some (.int (nI P)), some (.int sn), some (.int (nI hr)), some (.int (nI sm)), none, none, none] [] (mk M T) Q := by
  refine R_go 3 (pc' := 5) (L' := [some (.ref 42), some (.ref 4), some (.int (nI P)), some (.int sn), some (.int (nI hr)), some (.int (nI sm)), none, none, none]) (st' := [.int (M 1 6), .int (nI P)]) (h' := mk M T) (fun _ => rfl) ?_
  refine R_top (y := nI P) (fc_P h0 hf hP0) ?_
  refine R_if 1 (c := (nI P) ≤ (nI P)) (t := 14) (f := 8) (L' := [some (.ref 42), some (.ref 4), some (.int (nI P)), some (.int sn), some (.int (nI hr)), some (.int (nI sm)), none, none, none]) (st' := []) (h' := mk M T) (fun _ => rfl) (fun g1 => ?_) (fun g1 => ?_)
  · replace g1 : P ≤ P := (nI_leI (a := P) (b := P) (by omega) (by omega)).mp g1
    refine R_go 3 (pc' := 20) (L' := [some (.ref 42), some (.ref 4), some (.int (nI P)), some (.int sn), some (.int (nI hr)), some (.int (nI sm)), none, none, none]) (st' := [.int (M 39 5), .int (nI sm)]) (h' := mk M T) (fun _ => rfl) ?_
    refine R_top (y := nI b) (hb) ?_
    refine R_if 1 (c := (nI sm) ≤ (nI b)) (t := 44) (f := 23) (L' := [some (.ref 42), some (.ref 4), some (.int (nI P)), some (.int sn), some (.int (nI hr)), some (.int (nI sm)), none, none, none]) (st' := []) (h' := mk M T) (fun _ => rfl) (fun g2 => ?_) (fun g2 => ?_)
    · replace g2 : sm ≤ b := (nI_leI (a := sm) (b := b) (by omega) (by omega)).mp g2
      refine R_ret 1 (pcr := 44) (v := none) (h' := mk M T) (fun _ => rfl) ?_
      exact k1
    · replace g2 : ¬ sm ≤ b := fun q => g2 ((nI_leI (a := sm) (b := b) (by omega) (by omega)).mpr q)
      omega
  · replace g1 : ¬ P ≤ P := fun q => g1 ((nI_leI (a := P) (b := P) (by omega) (by omega)).mpr q)
    omega
set_option maxRecDepth 100000 in
set_option maxHeartbeats 4000000 in
theorem sk_in {ro : xRO} {d : Nat} {M : xM} {T : Nat} {Q : Option Value → xH → Prop} {M0 Mb : xM} (h0 : Rel M0) {P : Nat} (hP0 : M0 62 6 = nI P) (h6P : P ≤ 6) {pl hr sm : Nat} {sn : Int32} (hf : FC M0 M) (hpl : pl < P) (k1 : Rn ro (d + 9) M_X3_seek 48 [some (.ref 42), some (.ref 4), some (.int (nI pl)), some (.int sn), some (.int (nI hr)), some (.int (nI sm)), some (.int 0), none, none] [] (mk M T) Q) : Rn ro (d + 9) M_X3_seek 0 [some (.ref 42), some (.ref 4), some (.int (nI pl)), some (.int sn), some (.int (nI hr)), some (.int (nI sm)), none, none, none] [] (mk M T) Q := by
  refine R_go 3 (pc' := 5) (L' := [some (.ref 42), some (.ref 4), some (.int (nI pl)), some (.int sn), some (.int (nI hr)), some (.int (nI sm)), none, none, none]) (st' := [.int (M 1 6), .int (nI pl)]) (h' := mk M T) (fun _ => rfl) ?_
  refine R_top (y := nI P) (fc_P h0 hf hP0) ?_
  refine R_if 1 (c := (nI P) ≤ (nI pl)) (t := 14) (f := 8) (L' := [some (.ref 42), some (.ref 4), some (.int (nI pl)), some (.int sn), some (.int (nI hr)), some (.int (nI sm)), none, none, none]) (st' := []) (h' := mk M T) (fun _ => rfl) (fun g1 => ?_) (fun g1 => ?_)
  · replace g1 : P ≤ pl := (nI_leI (a := P) (b := pl) (by omega) (by omega)).mp g1
    omega
  · replace g1 : ¬ P ≤ pl := fun q => g1 ((nI_leI (a := P) (b := pl) (by omega) (by omega)).mpr q)
    refine R_if 3 (c := (nI pl) < 6) (t := 45) (f := 14) (L' := [some (.ref 42), some (.ref 4), some (.int (nI pl)), some (.int sn), some (.int (nI hr)), some (.int (nI sm)), none, none, none]) (st' := []) (h' := mk M T) (fun _ => rfl) (fun g2 => ?_) (fun g2 => ?_)
    · replace g2 : pl < 6 := (nI_ltI (a := pl) (b := 6) (by omega) (by omega)).mp g2
      refine R_go 2 (pc' := 48) (L' := [some (.ref 42), some (.ref 4), some (.int (nI pl)), some (.int sn), some (.int (nI hr)), some (.int (nI sm)), some (.int 0), none, none]) (st' := []) (h' := mk M T) (fun _ => rfl) ?_
      exact k1
    · replace g2 : ¬ pl < 6 := fun q => g2 ((nI_ltI (a := pl) (b := 6) (by omega) (by omega)).mpr q)
      omega
set_option maxRecDepth 100000 in
set_option maxHeartbeats 4000000 in
theorem sk_out {ro : xRO} {d : Nat} {M : xM} {T : Nat} {Q : Option Value → xH → Prop} {M0 Mb : xM} (h0 : Rel M0) {P : Nat} (hP0 : M0 62 6 = nI P) (h6P : P ≤ 6) {pl hr sm : Nat} {sn : Int32} (hf : FC M0 M) {w1 w2 : Option Value} (k1 : Q none (mk M T)) : Rn ro (d + 9) M_X3_seek 48 [some (.ref 42), some (.ref 4), some (.int (nI pl)), some (.int sn), some (.int (nI hr)), some (.int (nI sm)), some (.int (nI P)), w1, w2] [] (mk M T) Q := by
  refine R_go 3 (pc' := 54) (L' := [some (.ref 42), some (.ref 4), some (.int (nI pl)), some (.int sn), some (.int (nI hr)), some (.int (nI sm)), some (.int (nI P)), w1, w2]) (st' := [.int (M 1 6), .int (nI P)]) (h' := mk M T) (fun _ => rfl) ?_
  refine R_top (y := nI P) (fc_P h0 hf hP0) ?_
  refine R_if 1 (c := (nI P) ≤ (nI P)) (t := 148) (f := 57) (L' := [some (.ref 42), some (.ref 4), some (.int (nI pl)), some (.int sn), some (.int (nI hr)), some (.int (nI sm)), some (.int (nI P)), w1, w2]) (st' := []) (h' := mk M T) (fun _ => rfl) (fun g1 => ?_) (fun g1 => ?_)
  · replace g1 : P ≤ P := (nI_leI (a := P) (b := P) (by omega) (by omega)).mp g1
    refine R_ret 1 (pcr := 148) (v := none) (h' := mk M T) (fun _ => rfl) ?_
    exact k1
  · replace g1 : ¬ P ≤ P := fun q => g1 ((nI_leI (a := P) (b := P) (by omega) (by omega)).mpr q)
    omega
set_option maxRecDepth 100000 in
set_option maxHeartbeats 4000000 in
theorem sk_skip {ro : xRO} {d : Nat} {M : xM} {T : Nat} {Q : Option Value → xH → Prop} {M0 Mb : xM} (h0 : Rel M0) {P : Nat} (hP0 : M0 62 6 = nI P) (h6P : P ≤ 6) {pl hr sm : Nat} {sn : Int32} (hf : FC M0 M) {i : Nat} (hi : i < P) (hu : ¬ ((sn >>> ((nI i) &&& 31)) &&& 1) = 0) {w1 w2 : Option Value} (k1 : Rn ro (d + 9) M_X3_seek 48 [some (.ref 42), some (.ref 4), some (.int (nI pl)), some (.int sn), some (.int (nI hr)), some (.int (nI sm)), some (.int (nI (i + 1))), some (.ref (3 + i + 3)), w2] [] (mk M T) Q) : Rn ro (d + 9) M_X3_seek 48 [some (.ref 42), some (.ref 4), some (.int (nI pl)), some (.int sn), some (.int (nI hr)), some (.int (nI sm)), some (.int (nI i)), w1, w2] [] (mk M T) Q := by
  refine R_go 3 (pc' := 54) (L' := [some (.ref 42), some (.ref 4), some (.int (nI pl)), some (.int sn), some (.int (nI hr)), some (.int (nI sm)), some (.int (nI i)), w1, w2]) (st' := [.int (M 1 6), .int (nI i)]) (h' := mk M T) (fun _ => rfl) ?_
  refine R_top (y := nI P) (fc_P h0 hf hP0) ?_
  refine R_if 1 (c := (nI P) ≤ (nI i)) (t := 148) (f := 57) (L' := [some (.ref 42), some (.ref 4), some (.int (nI pl)), some (.int sn), some (.int (nI hr)), some (.int (nI sm)), some (.int (nI i)), w1, w2]) (st' := []) (h' := mk M T) (fun _ => rfl) (fun g1 => ?_) (fun g1 => ?_)
  · replace g1 : P ≤ i := (nI_leI (a := P) (b := i) (by omega) (by omega)).mp g1
    omega
  · replace g1 : ¬ P ≤ i := fun q => g1 ((nI_leI (a := P) (b := i) (by omega) (by omega)).mpr q)
    refine R_go 2 (pc' := 60) (L' := [some (.ref 42), some (.ref 4), some (.int (nI pl)), some (.int sn), some (.int (nI hr)), some (.int (nI sm)), some (.int (nI i)), w1, w2]) (st' := [.int (nI i), .ref 4]) (h' := mk M T) (fun _ => rfl) ?_
    refine R_callD (i := .invokevirtual 37) (kd := 0) (y := M_X0_paneAt) (as := [.ref 4, .int (nI i)]) (r := []) (L0 := [some (.ref 4), some (.int (nI i))]) (v := some (.ref (3 + i + 3))) (h' := mk M T) (pc' := 63) (st' := [.ref (3 + i + 3)]) rfl rfl rfl rfl rfl rfl (c_paneAt_in (fc_P h0 hf hP0) (by omega) (n := i) (by omega)) ?_
    refine R_ifn 9 (c := ((sn >>> ((nI i) &&& 31)) &&& 1) = 0) (t := 142) (f := 79) (L' := [some (.ref 42), some (.ref 4), some (.int (nI pl)), some (.int sn), some (.int (nI hr)), some (.int (nI sm)), some (.int (nI i)), some (.ref (3 + i + 3)), w2]) (st' := []) (h' := mk M T) (fun _ => rfl) (fun g2 => ?_) (fun g2 => ?_)
    · refine R_go 1 (pc' := 145) (L' := [some (.ref 42), some (.ref 4), some (.int (nI pl)), some (.int sn), some (.int (nI hr)), some (.int (nI sm)), some (.int ((nI i) + 1)), some (.ref (3 + i + 3)), w2]) (st' := []) (h' := mk M T) (fun _ => rfl) ?_
      rw [nI_1]
      refine R_go 1 (pc' := 48) (L' := [some (.ref 42), some (.ref 4), some (.int (nI pl)), some (.int sn), some (.int (nI hr)), some (.int (nI sm)), some (.int (nI (i + 1))), some (.ref (3 + i + 3)), w2]) (st' := []) (h' := mk M T) (fun _ => rfl) ?_
      exact k1
    · exact absurd g2 (hu)
def pX (M : xM) (pl i : Nat) (M2 : xM) : Prop := (∀ c, c ≠ 16 → c ≠ 19 → c ≠ 40 → c ≠ 41 → c ≠ 43 → M2 c = M c) ∧ M2 43 = up M 43 pl (nI i) 43
set_option maxRecDepth 100000 in
set_option maxHeartbeats 4000000 in
theorem sk_rec {ro : xRO} {d : Nat} {M : xM} {T : Nat} {Q : Option Value → xH → Prop} {M0 Mb : xM} (h0 : Rel M0) {P : Nat} (hP0 : M0 62 6 = nI P) (h6P : P ≤ 6) {pl hr sm : Nat} {sn : Int32} (hf : FC M0 M) (hm : Memo M0 M) {i : Nat} (hi : i < P) (hu : ((sn >>> ((nI i) &&& 31)) &&& 1) = 0) (hpl : pl < P) (h9 : hr ≤ 200) {w1 w2 : Option Value} {A : xM → Prop} (hrec : ∀ M2, FC M0 M2 → Memo M0 M2 → pX M pl i M2 → Rn ro (d + 8) M_X3_seek 0 [some (.ref 42), some (.ref 4), some (.int (nI (pl + 1))), some (.int (sn ||| (1 <<< ((nI i) &&& 31)))), some (.int (nI (hr + tkN M0 i (rdN M0 0 i hr)))), some (.int (nI (sm + vlN M0 i (rdN M0 0 i hr)))), none, none, none] [] (mk M2 T) (fun rr h => ∃ M3, A M3 ∧ rr = none ∧ h = mk M3 T)) (k1 : ∀ M3 w1 w2, A M3 → Rn ro (d + 9) M_X3_seek 48 [some (.ref 42), some (.ref 4), some (.int (nI pl)), some (.int sn), some (.int (nI hr)), some (.int (nI sm)), some (.int (nI (i + 1))), w1, w2] [] (mk M3 T) Q) : Rn ro (d + 9) M_X3_seek 48 [some (.ref 42), some (.ref 4), some (.int (nI pl)), some (.int sn), some (.int (nI hr)), some (.int (nI sm)), some (.int (nI i)), w1, w2] [] (mk M T) Q := by
  have rl := rdN_le h0 (B := 0) (p := i) (hour := hr) (by omega)
  have fnn := fc_now h0 hf
  refine R_go 3 (pc' := 54) (L' := [some (.ref 42), some (.ref 4), some (.int (nI pl)), some (.int sn), some (.int (nI hr)), some (.int (nI sm)), some (.int (nI i)), w1, w2]) (st' := [.int (M 1 6), .int (nI i)]) (h' := mk M T) (fun _ => rfl) ?_
  refine R_top (y := nI P) (fc_P h0 hf hP0) ?_
  refine R_if 1 (c := (nI P) ≤ (nI i)) (t := 148) (f := 57) (L' := [some (.ref 42), some (.ref 4), some (.int (nI pl)), some (.int sn), some (.int (nI hr)), some (.int (nI sm)), some (.int (nI i)), w1, w2]) (st' := []) (h' := mk M T) (fun _ => rfl) (fun g1 => ?_) (fun g1 => ?_)
  · replace g1 : P ≤ i := (nI_leI (a := P) (b := i) (by omega) (by omega)).mp g1
    omega
  · replace g1 : ¬ P ≤ i := fun q => g1 ((nI_leI (a := P) (b := i) (by omega) (by omega)).mpr q)
    refine R_go 2 (pc' := 60) (L' := [some (.ref 42), some (.ref 4), some (.int (nI pl)), some (.int sn), some (.int (nI hr)), some (.int (nI sm)), some (.int (nI i)), w1, w2]) (st' := [.int (nI i), .ref 4]) (h' := mk M T) (fun _ => rfl) ?_
    refine R_callD (i := .invokevirtual 37) (kd := 0) (y := M_X0_paneAt) (as := [.ref 4, .int (nI i)]) (r := []) (L0 := [some (.ref 4), some (.int (nI i))]) (v := some (.ref (3 + i + 3))) (h' := mk M T) (pc' := 63) (st' := [.ref (3 + i + 3)]) rfl rfl rfl rfl rfl rfl (c_paneAt_in (fc_P h0 hf hP0) (by omega) (n := i) (by omega)) ?_
    refine R_ifn 9 (c := ((sn >>> ((nI i) &&& 31)) &&& 1) = 0) (t := 142) (f := 79) (L' := [some (.ref 42), some (.ref 4), some (.int (nI pl)), some (.int sn), some (.int (nI hr)), some (.int (nI sm)), some (.int (nI i)), some (.ref (3 + i + 3)), w2]) (st' := []) (h' := mk M T) (fun _ => rfl) (fun g2 => ?_) (fun g2 => ?_)
    · exact absurd (hu) g2
    · refine R_go 4 (pc' := 87) (L' := [some (.ref 42), some (.ref 4), some (.int (nI pl)), some (.int sn), some (.int (nI hr)), some (.int (nI sm)), some (.int (nI i)), some (.ref (3 + i + 3)), w2]) (st' := [.int (M 1 11), .int (nI hr), .ref (3 + i + 3)]) (h' := mk M T) (fun _ => rfl) ?_
      refine R_top (y := nI (cdN M0)) ((fc_now h0 hf).1) ?_
      refine R_go 2 (pc' := 91) (L' := [some (.ref 42), some (.ref 4), some (.int (nI pl)), some (.int sn), some (.int (nI hr)), some (.int (nI sm)), some (.int (nI i)), some (.ref (3 + i + 3)), w2]) (st' := [.int (M 1 13), .int (nI (cdN M0)), .int (nI hr), .ref (3 + i + 3)]) (h' := mk M T) (fun _ => rfl) ?_
      refine R_top (y := nI (lpN M0)) ((fc_now h0 hf).2.1) ?_
      refine R_callD (i := .invokevirtual 103) (kd := 0) (y := M_X1_leftAt) (as := [.ref (3 + i + 3), .int (nI hr), .int (nI (cdN M0)), .int (nI (lpN M0))]) (r := []) (L0 := [some (.ref (3 + i + 3)), some (.int (nI hr)), some (.int (nI (cdN M0))), some (.int (nI (lpN M0)))]) (v := some (.int (nI (lftN (kdN M0 i) (mqN M0 i) (fcN M0 i) (clN M0 i) hr (cdN M0) (lpN M0))))) (h' := mk M T) (pc' := 94) (st' := [.int (nI (lftN (kdN M0 i) (mqN M0 i) (fcN M0 i) (clN M0 i) hr (cdN M0) (lpN M0)))]) rfl rfl rfl rfl (xPre_c (sh_pane (by omega)) rfl rfl rfl rfl) rfl (c_leftAt (sh_pane (by omega)) (fc_pane h0 hf (p := i) (by omega)).1 (by omega) (by omega) (by omega)) ?_
      refine R_top (y := nI (rdN M0 0 i hr)) (congrArg nI (rd_0 (by omega))) ?_
      refine R_go 5 (pc' := 103) (L' := [some (.ref 42), some (.ref 4), some (.int (nI pl)), some (.int sn), some (.int (nI hr)), some (.int (nI sm)), some (.int (nI i)), some (.ref (3 + i + 3)), some (.int (nI (rdN M0 0 i hr)))]) (st' := [.int (nI i), .int (nI pl), .ref 46]) (h' := mk M T) (fun _ => rfl) ?_
      refine R_iast (c := 43) (n := 8) (j := pl) rfl rfl (by omega) (by decide) ?_
      refine R_go 5 (pc' := 109) (L' := [some (.ref 42), some (.ref 4), some (.int (nI pl)), some (.int sn), some (.int (nI hr)), some (.int (nI sm)), some (.int (nI i)), some (.ref (3 + i + 3)), some (.int (nI (rdN M0 0 i hr)))]) (st' := [.int (nI pl + 1), .ref 4, .ref 42]) (h' := mk (up M 43 pl (nI i)) T) (fun _ => rfl) ?_
      refine R_top (nI_add pl 1) ?_
      refine R_go 10 (pc' := 123) (L' := [some (.ref 42), some (.ref 4), some (.int (nI pl)), some (.int sn), some (.int (nI hr)), some (.int (nI sm)), some (.int (nI i)), some (.ref (3 + i + 3)), some (.int (nI (rdN M0 0 i hr)))]) (st' := [.int (nI (rdN M0 0 i hr)), .int (nI i), .ref 4, .ref 42, .int (nI hr), .int (sn ||| (1 <<< ((nI i) &&& 31))), .int (nI (pl + 1)), .ref 4, .ref 42]) (h' := mk (up M 43 pl (nI i)) T) (fun _ => rfl) ?_
      refine R_callE (i := .invokevirtual 110) (kd := 0) (y := M_X3_tookOf) (as := [.ref 42, .ref 4, .int (nI i), .int (nI (rdN M0 0 i hr))]) (r := [.int (nI hr), .int (sn ||| (1 <<< ((nI i) &&& 31))), .int (nI (pl + 1)), .ref 4, .ref 42]) (L0 := [some (.ref 42), some (.ref 4), some (.int (nI i)), some (.int (nI (rdN M0 0 i hr))), none, none]) (v := fun M1 => some (.int (nI (tkN M0 i (rdN M0 0 i hr))))) (h' := fun M1 => mk M1 T) (pc' := 126) (st' := fun M1 => [.int (nI (tkN M0 i (rdN M0 0 i hr))), .int (nI hr), .int (sn ||| (1 <<< ((nI i) &&& 31))), .int (nI (pl + 1)), .ref 4, .ref 42]) rfl rfl rfl rfl rfl rfl ((c_tookOf (M := up M 43 pl (nI i)) (p := i) (r := rdN M0 0 i hr) h0 (FC_up hf (Or.inr (by omega))) ((congrFun (up_ne (by omega)) 6).trans (fc_P h0 hf hP0)) (by omega) hi rl (hm.frame rfl rfl))) (fun M1 g3 => ?_)
      obtain ⟨vx1, me1⟩ := g3
      refine R_go 1 (pc' := 127) (L' := [some (.ref 42), some (.ref 4), some (.int (nI pl)), some (.int sn), some (.int (nI hr)), some (.int (nI sm)), some (.int (nI i)), some (.ref (3 + i + 3)), some (.int (nI (rdN M0 0 i hr)))]) (st' := [.int (nI hr + nI (tkN M0 i (rdN M0 0 i hr))), .int (sn ||| (1 <<< ((nI i) &&& 31))), .int (nI (pl + 1)), .ref 4, .ref 42]) (h' := mk M1 T) (fun _ => rfl) ?_
      refine R_top (nI_add hr (tkN M0 i (rdN M0 0 i hr))) ?_
      refine R_go 5 (pc' := 135) (L' := [some (.ref 42), some (.ref 4), some (.int (nI pl)), some (.int sn), some (.int (nI hr)), some (.int (nI sm)), some (.int (nI i)), some (.ref (3 + i + 3)), some (.int (nI (rdN M0 0 i hr)))]) (st' := [.int (nI (rdN M0 0 i hr)), .int (nI i), .ref 4, .ref 42, .int (nI sm), .int (nI (hr + (tkN M0 i (rdN M0 0 i hr)))), .int (sn ||| (1 <<< ((nI i) &&& 31))), .int (nI (pl + 1)), .ref 4, .ref 42]) (h' := mk M1 T) (fun _ => rfl) ?_
      refine R_callE (i := .invokevirtual 106) (kd := 0) (y := M_X3_valueOf) (as := [.ref 42, .ref 4, .int (nI i), .int (nI (rdN M0 0 i hr))]) (r := [.int (nI sm), .int (nI (hr + (tkN M0 i (rdN M0 0 i hr)))), .int (sn ||| (1 <<< ((nI i) &&& 31))), .int (nI (pl + 1)), .ref 4, .ref 42]) (L0 := [some (.ref 42), some (.ref 4), some (.int (nI i)), some (.int (nI (rdN M0 0 i hr))), none, none]) (v := fun M2 => some (.int (nI (vlN M0 i (rdN M0 0 i hr))))) (h' := fun M2 => mk M2 T) (pc' := 138) (st' := fun M2 => [.int (nI (vlN M0 i (rdN M0 0 i hr))), .int (nI sm), .int (nI (hr + (tkN M0 i (rdN M0 0 i hr)))), .int (sn ||| (1 <<< ((nI i) &&& 31))), .int (nI (pl + 1)), .ref 4, .ref 42]) rfl rfl rfl rfl rfl rfl ((c_valueOf (M := M1) (p := i) (r := rdN M0 0 i hr) h0 (FC_VX (FC_up hf (Or.inr (by omega))) vx1) (fc_P h0 (FC_VX (FC_up hf (Or.inr (by omega))) vx1) hP0) (by omega) hi rl me1)) (fun M2 g4 => ?_)
      obtain ⟨vx2, me2⟩ := g4
      refine R_go 1 (pc' := 139) (L' := [some (.ref 42), some (.ref 4), some (.int (nI pl)), some (.int sn), some (.int (nI hr)), some (.int (nI sm)), some (.int (nI i)), some (.ref (3 + i + 3)), some (.int (nI (rdN M0 0 i hr)))]) (st' := [.int (nI sm + nI (vlN M0 i (rdN M0 0 i hr))), .int (nI (hr + (tkN M0 i (rdN M0 0 i hr)))), .int (sn ||| (1 <<< ((nI i) &&& 31))), .int (nI (pl + 1)), .ref 4, .ref 42]) (h' := mk M2 T) (fun _ => rfl) ?_
      refine R_top (nI_add sm (vlN M0 i (rdN M0 0 i hr))) ?_
      refine R_callE (i := .invokevirtual 138) (kd := 0) (y := M_X3_seek) (as := [.ref 42, .ref 4, .int (nI (pl + 1)), .int (sn ||| (1 <<< ((nI i) &&& 31))), .int (nI (hr + (tkN M0 i (rdN M0 0 i hr)))), .int (nI (sm + (vlN M0 i (rdN M0 0 i hr))))]) (r := []) (L0 := [some (.ref 42), some (.ref 4), some (.int (nI (pl + 1))), some (.int (sn ||| (1 <<< ((nI i) &&& 31)))), some (.int (nI (hr + (tkN M0 i (rdN M0 0 i hr))))), some (.int (nI (sm + (vlN M0 i (rdN M0 0 i hr))))), none, none, none]) (v := fun M3 => none) (h' := fun M3 => mk M3 T) (pc' := 142) (st' := fun M3 => []) rfl rfl rfl rfl rfl rfl (hrec M2 (FC_VX (FC_VX (FC_up hf (Or.inr (by omega))) vx1) vx2) me2 ⟨fun c a1 a2 a3 a4 a5 => (vx2 c a1 a2 a3 a4).trans ((vx1 c a1 a2 a3 a4).trans (up_ne a5)), by rw [vx2 43 (by omega) (by omega) (by omega) (by omega), vx1 43 (by omega) (by omega) (by omega) (by omega)]⟩) (fun M3 g5 => ?_)
      have xw := g5
      refine R_go 1 (pc' := 145) (L' := [some (.ref 42), some (.ref 4), some (.int (nI pl)), some (.int sn), some (.int (nI hr)), some (.int (nI sm)), some (.int ((nI i) + 1)), some (.ref (3 + i + 3)), some (.int (nI (rdN M0 0 i hr)))]) (st' := []) (h' := mk M3 T) (fun _ => rfl) ?_
      rw [nI_1]
      refine R_go 1 (pc' := 48) (L' := [some (.ref 42), some (.ref 4), some (.int (nI pl)), some (.int sn), some (.int (nI hr)), some (.int (nI sm)), some (.int (nI (i + 1))), some (.ref (3 + i + 3)), some (.int (nI (rdN M0 0 i hr)))]) (st' := []) (h' := mk M3 T) (fun _ => rfl) ?_
      exact k1 M3 _ _ xw
