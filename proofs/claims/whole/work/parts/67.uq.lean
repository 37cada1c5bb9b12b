/-! OPERATION breath -/
set_option maxRecDepth 100000 in
set_option maxHeartbeats 4000000 in
theorem bm_none {ro : xRO} {d : Nat} {M : xM} {T : Nat} {Q : Option Value → xH → Prop} {M0 Mb : xM} (h0 : Rel M0) {P : Nat} (hP0 : M0 62 6 = nI P) (h8 : P ≤ 8) {heir v NN : Nat} (h5 : heir ≤ 5) (v9 : v ≤ 99999) (hNN : NN = 2 ^ P) {u : Nat} (hx : BM M0 Mb M) {s : Nat} (hs : s < NN)  (k1 : Rn ro (d + 90) M_X8_breath 76 [some (.ref 64), some (.int (nI heir)), some (.int (nI v)), some (.int (nI u)), some (.int (-1)), some (.int (nI s))] [] (mk M T) Q) : Rn ro (d + 90) M_X8_breath 44 [some (.ref 64), some (.int (nI heir)), some (.int (nI v)), some (.int (nI u)), some (.int (-1)), some (.int (nI s))] [] (mk M T) Q := by
  have n256 : NN ≤ 256 := by rw [hNN]; exact pw_P h8
  refine R_go 6 (pc' := 54) (L' := [some (.ref 64), some (.int (nI heir)), some (.int (nI v)), some (.int (nI u)), some (.int (-1)), some (.int (nI s))]) (st' := [.int (M 62 6), .int 1, .int (nI s)]) (h' := mk M T) (fun _ => rfl) ?_
  refine R_top (y := nI P) (fm_P hx.1 hP0) ?_
  refine R_go 1 (pc' := 55) (L' := [some (.ref 64), some (.int (nI heir)), some (.int (nI v)), some (.int (nI u)), some (.int (-1)), some (.int (nI s))]) (st' := [.int (1 <<< ((nI P) &&& 31)), .int (nI s)]) (h' := mk M T) (fun _ => rfl) ?_
  refine R_top ((sh_P h8).trans (congrArg nI hNN.symm)) ?_
  refine R_if 1 (c := (nI NN) ≤ (nI s)) (t := 111) (f := 58) (L' := [some (.ref 64), some (.int (nI heir)), some (.int (nI v)), some (.int (nI u)), some (.int (-1)), some (.int (nI s))]) (st' := []) (h' := mk M T) (fun _ => rfl) (fun g1 => ?_) (fun g1 => ?_)
  · replace g1 : NN ≤ s := (nI_leI (a := NN) (b := s) (by omega) (by omega)).mp g1
    omega
  · replace g1 : ¬ NN ≤ s := fun q => g1 ((nI_leI (a := NN) (b := s) (by omega) (by omega)).mpr q)
    refine R_go 2 (pc' := 76) (L' := [some (.ref 64), some (.int (nI heir)), some (.int (nI v)), some (.int (nI u)), some (.int (-1)), some (.int (nI s))]) (st' := []) (h' := mk M T) (fun _ => rfl) ?_
    exact k1
set_option maxRecDepth 100000 in
set_option maxHeartbeats 4000000 in
theorem bm_skip {ro : xRO} {d : Nat} {M : xM} {T : Nat} {Q : Option Value → xH → Prop} {M0 Mb : xM} (h0 : Rel M0) {P : Nat} (hP0 : M0 62 6 = nI P) (h8 : P ≤ 8) {heir v NN : Nat} (h5 : heir ≤ 5) (v9 : v ≤ 99999) (hNN : NN = 2 ^ P) {u : Nat} (hx : BM M0 Mb M) {s : Nat} (hs : s < NN) {s0 : Nat} (hs0 : s0 < NN) (hb : ¬ bc s < bc s0) (k1 : Rn ro (d + 90) M_X8_breath 44 [some (.ref 64), some (.int (nI heir)), some (.int (nI v)), some (.int (nI u)), some (.int (nI s0)), some (.int (nI (s + 1)))] [] (mk M T) Q) : Rn ro (d + 90) M_X8_breath 44 [some (.ref 64), some (.int (nI heir)), some (.int (nI v)), some (.int (nI u)), some (.int (nI s0)), some (.int (nI s))] [] (mk M T) Q := by
  have n256 : NN ≤ 256 := by rw [hNN]; exact pw_P h8
  have bb := (bc_all ⟨s, by omega⟩).2
  have bb : bc s ≤ 8 := bb
  have bb0 := (bc_all ⟨s0, by omega⟩).2
  have bb0 : bc s0 ≤ 8 := bb0
  refine R_go 6 (pc' := 54) (L' := [some (.ref 64), some (.int (nI heir)), some (.int (nI v)), some (.int (nI u)), some (.int (nI s0)), some (.int (nI s))]) (st' := [.int (M 62 6), .int 1, .int (nI s)]) (h' := mk M T) (fun _ => rfl) ?_
  refine R_top (y := nI P) (fm_P hx.1 hP0) ?_
  refine R_go 1 (pc' := 55) (L' := [some (.ref 64), some (.int (nI heir)), some (.int (nI v)), some (.int (nI u)), some (.int (nI s0)), some (.int (nI s))]) (st' := [.int (1 <<< ((nI P) &&& 31)), .int (nI s)]) (h' := mk M T) (fun _ => rfl) ?_
  refine R_top ((sh_P h8).trans (congrArg nI hNN.symm)) ?_
  refine R_if 1 (c := (nI NN) ≤ (nI s)) (t := 111) (f := 58) (L' := [some (.ref 64), some (.int (nI heir)), some (.int (nI v)), some (.int (nI u)), some (.int (nI s0)), some (.int (nI s))]) (st' := []) (h' := mk M T) (fun _ => rfl) (fun g1 => ?_) (fun g1 => ?_)
  · replace g1 : NN ≤ s := (nI_leI (a := NN) (b := s) (by omega) (by omega)).mp g1
    omega
  · replace g1 : ¬ NN ≤ s := fun q => g1 ((nI_leI (a := NN) (b := s) (by omega) (by omega)).mpr q)
    refine R_if 2 (c := (nI s0) < 0) (t := 76) (f := 63) (L' := [some (.ref 64), some (.int (nI heir)), some (.int (nI v)), some (.int (nI u)), some (.int (nI s0)), some (.int (nI s))]) (st' := []) (h' := mk M T) (fun _ => rfl) (fun g2 => ?_) (fun g2 => ?_)
    · replace g2 : s0 < 0 := (nI_ltI (a := s0) (b := 0) (by omega) (by omega)).mp g2
      omega
    · replace g2 : ¬ s0 < 0 := fun q => g2 ((nI_ltI (a := s0) (b := 0) (by omega) (by omega)).mpr q)
      refine R_go 1 (pc' := 65) (L' := [some (.ref 64), some (.int (nI heir)), some (.int (nI v)), some (.int (nI u)), some (.int (nI s0)), some (.int (nI s))]) (st' := [.int (nI s)]) (h' := mk M T) (fun _ => rfl) ?_
      refine R_callD (i := .invokestatic 203) (kd := 1) (y := M_X8_bits) (as := [.int (nI s)]) (r := []) (L0 := [some (.int (nI s)), none, none]) (v := some (.int (nI (bc s)))) (h' := mk M T) (pc' := 68) (st' := [.int (nI (bc s))]) rfl rfl rfl rfl rfl rfl (c_bits (s := s) (by omega)) ?_
      refine R_go 1 (pc' := 70) (L' := [some (.ref 64), some (.int (nI heir)), some (.int (nI v)), some (.int (nI u)), some (.int (nI s0)), some (.int (nI s))]) (st' := [.int (nI s0), .int (nI (bc s))]) (h' := mk M T) (fun _ => rfl) ?_
      refine R_callD (i := .invokestatic 203) (kd := 1) (y := M_X8_bits) (as := [.int (nI s0)]) (r := [.int (nI (bc s))]) (L0 := [some (.int (nI s0)), none, none]) (v := some (.int (nI (bc s0)))) (h' := mk M T) (pc' := 73) (st' := [.int (nI (bc s0)), .int (nI (bc s))]) rfl rfl rfl rfl rfl rfl (c_bits (s := s0) (by omega)) ?_
      refine R_if 1 (c := (nI (bc s0)) ≤ (nI (bc s))) (t := 105) (f := 76) (L' := [some (.ref 64), some (.int (nI heir)), some (.int (nI v)), some (.int (nI u)), some (.int (nI s0)), some (.int (nI s))]) (st' := []) (h' := mk M T) (fun _ => rfl) (fun g3 => ?_) (fun g3 => ?_)
      · replace g3 : (bc s0) ≤ (bc s) := (nI_leI (a := bc s0) (b := bc s) (by omega) (by omega)).mp g3
        refine R_go 1 (pc' := 108) (L' := [some (.ref 64), some (.int (nI heir)), some (.int (nI v)), some (.int (nI u)), some (.int (nI s0)), some (.int ((nI s) + 1))]) (st' := []) (h' := mk M T) (fun _ => rfl) ?_
        rw [nI_1]
        refine R_go 1 (pc' := 44) (L' := [some (.ref 64), some (.int (nI heir)), some (.int (nI v)), some (.int (nI u)), some (.int (nI s0)), some (.int (nI (s + 1)))]) (st' := []) (h' := mk M T) (fun _ => rfl) ?_
        exact k1
      · replace g3 : ¬ (bc s0) ≤ (bc s) := fun q => g3 ((nI_leI (a := bc s0) (b := bc s) (by omega) (by omega)).mpr q)
        omega
set_option maxRecDepth 100000 in
set_option maxHeartbeats 4000000 in
theorem bm_cmp {ro : xRO} {d : Nat} {M : xM} {T : Nat} {Q : Option Value → xH → Prop} {M0 Mb : xM} (h0 : Rel M0) {P : Nat} (hP0 : M0 62 6 = nI P) (h8 : P ≤ 8) {heir v NN : Nat} (h5 : heir ≤ 5) (v9 : v ≤ 99999) (hNN : NN = 2 ^ P) {u : Nat} (hx : BM M0 Mb M) {s : Nat} (hs : s < NN) {s0 : Nat} (hs0 : s0 < NN) (hb : bc s < bc s0) (k1 : Rn ro (d + 90) M_X8_breath 76 [some (.ref 64), some (.int (nI heir)), some (.int (nI v)), some (.int (nI u)), some (.int (nI s0)), some (.int (nI s))] [] (mk M T) Q) : Rn ro (d + 90) M_X8_breath 44 [some (.ref 64), some (.int (nI heir)), some (.int (nI v)), some (.int (nI u)), some (.int (nI s0)), some (.int (nI s))] [] (mk M T) Q := by
  have n256 : NN ≤ 256 := by rw [hNN]; exact pw_P h8
  have bb := (bc_all ⟨s, by omega⟩).2
  have bb : bc s ≤ 8 := bb
  have bb0 := (bc_all ⟨s0, by omega⟩).2
  have bb0 : bc s0 ≤ 8 := bb0
  refine R_go 6 (pc' := 54) (L' := [some (.ref 64), some (.int (nI heir)), some (.int (nI v)), some (.int (nI u)), some (.int (nI s0)), some (.int (nI s))]) (st' := [.int (M 62 6), .int 1, .int (nI s)]) (h' := mk M T) (fun _ => rfl) ?_
  refine R_top (y := nI P) (fm_P hx.1 hP0) ?_
  refine R_go 1 (pc' := 55) (L' := [some (.ref 64), some (.int (nI heir)), some (.int (nI v)), some (.int (nI u)), some (.int (nI s0)), some (.int (nI s))]) (st' := [.int (1 <<< ((nI P) &&& 31)), .int (nI s)]) (h' := mk M T) (fun _ => rfl) ?_
  refine R_top ((sh_P h8).trans (congrArg nI hNN.symm)) ?_
  refine R_if 1 (c := (nI NN) ≤ (nI s)) (t := 111) (f := 58) (L' := [some (.ref 64), some (.int (nI heir)), some (.int (nI v)), some (.int (nI u)), some (.int (nI s0)), some (.int (nI s))]) (st' := []) (h' := mk M T) (fun _ => rfl) (fun g1 => ?_) (fun g1 => ?_)
  · replace g1 : NN ≤ s := (nI_leI (a := NN) (b := s) (by omega) (by omega)).mp g1
    omega
  · replace g1 : ¬ NN ≤ s := fun q => g1 ((nI_leI (a := NN) (b := s) (by omega) (by omega)).mpr q)
    refine R_if 2 (c := (nI s0) < 0) (t := 76) (f := 63) (L' := [some (.ref 64), some (.int (nI heir)), some (.int (nI v)), some (.int (nI u)), some (.int (nI s0)), some (.int (nI s))]) (st' := []) (h' := mk M T) (fun _ => rfl) (fun g2 => ?_) (fun g2 => ?_)
    · replace g2 : s0 < 0 := (nI_ltI (a := s0) (b := 0) (by omega) (by omega)).mp g2
      omega
    · replace g2 : ¬ s0 < 0 := fun q => g2 ((nI_ltI (a := s0) (b := 0) (by omega) (by omega)).mpr q)
      refine R_go 1 (pc' := 65) (L' := [some (.ref 64), some (.int (nI heir)), some (.int (nI v)), some (.int (nI u)), some (.int (nI s0)), some (.int (nI s))]) (st' := [.int (nI s)]) (h' := mk M T) (fun _ => rfl) ?_
      refine R_callD (i := .invokestatic 203) (kd := 1) (y := M_X8_bits) (as := [.int (nI s)]) (r := []) (L0 := [some (.int (nI s)), none, none]) (v := some (.int (nI (bc s)))) (h' := mk M T) (pc' := 68) (st' := [.int (nI (bc s))]) rfl rfl rfl rfl rfl rfl (c_bits (s := s) (by omega)) ?_
      refine R_go 1 (pc' := 70) (L' := [some (.ref 64), some (.int (nI heir)), some (.int (nI v)), some (.int (nI u)), some (.int (nI s0)), some (.int (nI s))]) (st' := [.int (nI s0), .int (nI (bc s))]) (h' := mk M T) (fun _ => rfl) ?_
      refine R_callD (i := .invokestatic 203) (kd := 1) (y := M_X8_bits) (as := [.int (nI s0)]) (r := [.int (nI (bc s))]) (L0 := [some (.int (nI s0)), none, none]) (v := some (.int (nI (bc s0)))) (h' := mk M T) (pc' := 73) (st' := [.int (nI (bc s0)), .int (nI (bc s))]) rfl rfl rfl rfl rfl rfl (c_bits (s := s0) (by omega)) ?_
      refine R_if 1 (c := (nI (bc s0)) ≤ (nI (bc s))) (t := 105) (f := 76) (L' := [some (.ref 64), some (.int (nI heir)), some (.int (nI v)), some (.int (nI u)), some (.int (nI s0)), some (.int (nI s))]) (st' := []) (h' := mk M T) (fun _ => rfl) (fun g3 => ?_) (fun g3 => ?_)
      · replace g3 : (bc s0) ≤ (bc s) := (nI_leI (a := bc s0) (b := bc s) (by omega) (by omega)).mp g3
        omega
      · replace g3 : ¬ (bc s0) ≤ (bc s) := fun q => g3 ((nI_leI (a := bc s0) (b := bc s) (by omega) (by omega)).mpr q)
        exact k1
theorem c_shareIn {ro : xRO} {d : Nat} {M : xM} {T : Nat} {M0 : xM} (h0 : Rel M0) (hf : FM M0 M) {P : Nat} (hP0 : M0 62 6 = nI P) (h8 : P ≤ 8) {wv : Nat → Nat} {heir : Nat} (h5 : heir ≤ 5) (hwv : ∀ j, j < P → M 73 j = nI (wv j) ∧ wv j ≤ 9999) : Rn ro (d + 1) M_X8_shareIn 0 [some (.ref 64), some (.int (nI heir)), none, none] [] (mk M T) (fun r h => r = some (.int (nI (gnT M0 wv heir P))) ∧ h = mk M T) := by
  refine R_go 4 (pc' := 4) (L' := [some (.ref 64), some (.int (nI heir)), some (.int 0), some (.int 0)]) (st' := []) (h' := mk M T) (fun _ => rfl) ?_
  exact lp_gain_m (M := M) (T := T) (d := d) (M0 := M0) h8 (wv := wv) h5 (fm_P hf hP0) hwv (fun j hj => ⟨(fm_pane h0 hf (p := j) (by omega)).2.2.1, (fm_pane h0 hf (p := j) (by omega)).2.2.2.2.2⟩) P 0 (Nat.zero_add P)
set_option maxRecDepth 100000 in
set_option maxHeartbeats 4000000 in
theorem bm_try {ro : xRO} {d : Nat} {M : xM} {T : Nat} {Q : Option Value → xH → Prop} {M0 Mb : xM} (h0 : Rel M0) {P : Nat} (hP0 : M0 62 6 = nI P) (h8 : P ≤ 8) {heir v NN : Nat} (h5 : heir ≤ 5) (v9 : v ≤ 99999) (hNN : NN = 2 ^ P) {u : Nat} (hx : BM M0 Mb M) {s : Nat} (hs : s < NN) {b : Int32} (gs9 : gnS M0 P heir s ≤ 99999) (k1 : ∀ M', BM M0 Mb M' → ¬ v ≤ gnS M0 P heir s → Rn ro (d + 90) M_X8_breath 44 [some (.ref 64), some (.int (nI heir)), some (.int (nI v)), some (.int (nI u)), some (.int b), some (.int (nI (s + 1)))] [] (mk M' T) Q) (k2 : ∀ M', BM M0 Mb M' → v ≤ gnS M0 P heir s → Rn ro (d + 90) M_X8_breath 44 [some (.ref 64), some (.int (nI heir)), some (.int (nI v)), some (.int (nI u)), some (.int (nI s)), some (.int (nI (s + 1)))] [] (mk M' T) Q) : Rn ro (d + 90) M_X8_breath 76 [some (.ref 64), some (.int (nI heir)), some (.int (nI v)), some (.int (nI u)), some (.int b), some (.int (nI s))] [] (mk M T) Q := by
  have n256 : NN ≤ 256 := by rw [hNN]; exact pw_P h8
  refine R_go 4 (pc' := 83) (L' := [some (.ref 64), some (.int (nI heir)), some (.int (nI v)), some (.int (nI u)), some (.int b), some (.int (nI s))]) (st' := [.ref 64]) (h' := mk (up M 61 7 (nI s)) T) (fun _ => rfl) ?_
  refine R_callE (i := .invokevirtual 174) (kd := 0) (y := M_X8_roundOf) (as := [.ref 64]) (r := []) (L0 := [some (.ref 64), none, none, none, none, none]) (v := fun M' => some (.int (nI (rsum M0 (nI s) idN P)))) (h' := fun M' => mk M' T) (pc' := 86) (st' := fun M' => [.int (nI (rsum M0 (nI s) idN P))]) rfl rfl rfl rfl rfl rfl (m_roundOf (M := up M 61 7 (nI s)) (ord := idN) (B := nI s) h0 (FM_up hx.1 (by omega)) hP0 h8 (fun i hi => hi) (fun i hi => hx.2.1 i (by omega)) rfl) (fun M' g1 => ?_)
  have xw := g1
  refine R_go 3 (pc' := 89) (L' := [some (.ref 64), some (.int (nI heir)), some (.int (nI v)), some (.int (nI u)), some (.int b), some (.int (nI s))]) (st' := [.int (nI heir), .ref 64]) (h' := mk M' T) (fun _ => rfl) ?_
  refine R_callD (i := .invokevirtual 200) (kd := 0) (y := M_X8_shareIn) (as := [.ref 64, .int (nI heir)]) (r := []) (L0 := [some (.ref 64), some (.int (nI heir)), none, none]) (v := some (.int (nI (gnS M0 P heir s)))) (h' := mk M' T) (pc' := 92) (st' := [.int (nI (gnS M0 P heir s))]) rfl rfl rfl rfl rfl rfl (c_shareIn (M := M') (M0 := M0) h0 xw.1 hP0 h8 h5 (wv := wkV M0 (nI s) idN P) (fun j hj => ⟨by rw [xw.2.2]; exact (wkV_p ⟨j, hj, rfl⟩).2 _, (wkV_p ⟨j, hj, rfl⟩).1⟩)) ?_
  refine R_if 2 (c := (nI (gnS M0 P heir s)) < (nI v)) (t := 101) (f := 96) (L' := [some (.ref 64), some (.int (nI heir)), some (.int (nI v)), some (.int (nI u)), some (.int b), some (.int (nI s))]) (st' := []) (h' := mk M' T) (fun _ => rfl) (fun g2 => ?_) (fun g2 => ?_)
  · replace g2 : (gnS M0 P heir s) < v := (nI_ltI (a := gnS M0 P heir s) (b := v) (by omega) (by omega)).mp g2
    refine R_go 3 (pc' := 108) (L' := [some (.ref 64), some (.int (nI heir)), some (.int (nI v)), some (.int (nI u)), some (.int b), some (.int ((nI s) + 1))]) (st' := []) (h' := mk M' T) (fun _ => rfl) ?_
    rw [nI_1]
    refine R_go 1 (pc' := 44) (L' := [some (.ref 64), some (.int (nI heir)), some (.int (nI v)), some (.int (nI u)), some (.int b), some (.int (nI (s + 1)))]) (st' := []) (h' := mk M' T) (fun _ => rfl) ?_
    exact k1 M' ⟨xw.1, fun j hj => (congrFun (xw.2.1 72 (by omega) (by omega) (by omega)) j).trans ((congrFun (up_ne (by omega)) j).trans (hx.2.1 j hj)), fun c a1 a2 a3 a4 => ((xw.2.1 c a2 a3 a4).trans (up_ne a1)).trans (hx.2.2.1 c a1 a2 a3 a4), fun j hj => ((congrFun (xw.2.1 61 (by omega) (by omega) (by omega)) j).trans (up_nj hj 61)).trans (hx.2.2.2 j hj)⟩ (by omega)
  · replace g2 : ¬ (gnS M0 P heir s) < v := fun q => g2 ((nI_ltI (a := gnS M0 P heir s) (b := v) (by omega) (by omega)).mpr q)
    refine R_go 4 (pc' := 108) (L' := [some (.ref 64), some (.int (nI heir)), some (.int (nI v)), some (.int (nI u)), some (.int (nI s)), some (.int ((nI s) + 1))]) (st' := []) (h' := mk M' T) (fun _ => rfl) ?_
    rw [nI_1]
    refine R_go 1 (pc' := 44) (L' := [some (.ref 64), some (.int (nI heir)), some (.int (nI v)), some (.int (nI u)), some (.int (nI s)), some (.int (nI (s + 1)))]) (st' := []) (h' := mk M' T) (fun _ => rfl) ?_
    exact k2 M' ⟨xw.1, fun j hj => (congrFun (xw.2.1 72 (by omega) (by omega) (by omega)) j).trans ((congrFun (up_ne (by omega)) j).trans (hx.2.1 j hj)), fun c a1 a2 a3 a4 => ((xw.2.1 c a2 a3 a4).trans (up_ne a1)).trans (hx.2.2.1 c a1 a2 a3 a4), fun j hj => ((congrFun (xw.2.1 61 (by omega) (by omega) (by omega)) j).trans (up_nj hj 61)).trans (hx.2.2.2 j hj)⟩ (by omega)
set_option maxRecDepth 100000 in
set_option maxHeartbeats 4000000 in
theorem bm_e_none {ro : xRO} {d : Nat} {M : xM} {T : Nat} {Q : Option Value → xH → Prop} {M0 Mb : xM} (h0 : Rel M0) {P : Nat} (hP0 : M0 62 6 = nI P) (h8 : P ≤ 8) {heir v NN : Nat} (h5 : heir ≤ 5) (v9 : v ≤ 99999) (hNN : NN = 2 ^ P) {u : Nat} (hx : BM M0 Mb M) (k1 : Q (some (.int (-1000000002))) (mk (up (up M 61 7 0) 64 2 ((up M 61 7 0) 64 2 + 1)) T)) : Rn ro (d + 90) M_X8_breath 44 [some (.ref 64), some (.int (nI heir)), some (.int (nI v)), some (.int (nI u)), some (.int (-1)), some (.int (nI NN))] [] (mk M T) Q := by
  have n256 : NN ≤ 256 := by rw [hNN]; exact pw_P h8
  refine R_go 6 (pc' := 54) (L' := [some (.ref 64), some (.int (nI heir)), some (.int (nI v)), some (.int (nI u)), some (.int (-1)), some (.int (nI NN))]) (st' := [.int (M 62 6), .int 1, .int (nI NN)]) (h' := mk M T) (fun _ => rfl) ?_
  refine R_top (y := nI P) (fm_P hx.1 hP0) ?_
  refine R_go 1 (pc' := 55) (L' := [some (.ref 64), some (.int (nI heir)), some (.int (nI v)), some (.int (nI u)), some (.int (-1)), some (.int (nI NN))]) (st' := [.int (1 <<< ((nI P) &&& 31)), .int (nI NN)]) (h' := mk M T) (fun _ => rfl) ?_
  refine R_top ((sh_P h8).trans (congrArg nI hNN.symm)) ?_
  refine R_if 1 (c := (nI NN) ≤ (nI NN)) (t := 111) (f := 58) (L' := [some (.ref 64), some (.int (nI heir)), some (.int (nI v)), some (.int (nI u)), some (.int (-1)), some (.int (nI NN))]) (st' := []) (h' := mk M T) (fun _ => rfl) (fun g1 => ?_) (fun g1 => ?_)
  · replace g1 : NN ≤ NN := (nI_leI (a := NN) (b := NN) (by omega) (by omega)).mp g1
    refine R_go 7 (pc' := 124) (L' := [some (.ref 64), some (.int (nI heir)), some (.int (nI v)), some (.int (nI u)), some (.int (-1)), some (.int (nI NN))]) (st' := [.int (-1000000002), .ref 64]) (h' := mk (up M 61 7 0) T) (fun _ => rfl) ?_
    refine R_callD (i := .invokevirtual 81) (kd := 0) (y := M_X8_error) (as := [.ref 64, .int (-1000000002)]) (r := []) (L0 := [some (.ref 64), some (.int (-1000000002))]) (v := some (.int (-1000000002))) (h' := mk (up (up M 61 7 0) 64 2 ((up M 61 7 0) 64 2 + 1)) T) (pc' := 127) (st' := [.int (-1000000002)]) rfl rfl rfl rfl rfl rfl (m_error_2) ?_
    refine R_ret 2 (pcr := 144) (v := some (.int (-1000000002))) (h' := mk (up (up M 61 7 0) 64 2 ((up M 61 7 0) 64 2 + 1)) T) (fun _ => rfl) ?_
    exact k1
  · replace g1 : ¬ NN ≤ NN := fun q => g1 ((nI_leI (a := NN) (b := NN) (by omega) (by omega)).mpr q)
    omega
set_option maxRecDepth 100000 in
set_option maxHeartbeats 4000000 in
theorem bm_e_0 {ro : xRO} {d : Nat} {M : xM} {T : Nat} {Q : Option Value → xH → Prop} {M0 Mb : xM} (h0 : Rel M0) {P : Nat} (hP0 : M0 62 6 = nI P) (h8 : P ≤ 8) {heir v NN : Nat} (h5 : heir ≤ 5) (v9 : v ≤ 99999) (hNN : NN = 2 ^ P) (hx : BM M0 Mb M) {s0 : Nat} (hs0 : s0 < NN) (k1 : Q (some (.int (nI (bc s0)))) (mk (up M 61 7 0) T)) : Rn ro (d + 90) M_X8_breath 44 [some (.ref 64), some (.int (nI heir)), some (.int (nI v)), some (.int 0), some (.int (nI s0)), some (.int (nI NN))] [] (mk M T) Q := by
  have n256 : NN ≤ 256 := by rw [hNN]; exact pw_P h8
  refine R_go 6 (pc' := 54) (L' := [some (.ref 64), some (.int (nI heir)), some (.int (nI v)), some (.int 0), some (.int (nI s0)), some (.int (nI NN))]) (st' := [.int (M 62 6), .int 1, .int (nI NN)]) (h' := mk M T) (fun _ => rfl) ?_
  refine R_top (y := nI P) (fm_P hx.1 hP0) ?_
  refine R_go 1 (pc' := 55) (L' := [some (.ref 64), some (.int (nI heir)), some (.int (nI v)), some (.int 0), some (.int (nI s0)), some (.int (nI NN))]) (st' := [.int (1 <<< ((nI P) &&& 31)), .int (nI NN)]) (h' := mk M T) (fun _ => rfl) ?_
  refine R_top ((sh_P h8).trans (congrArg nI hNN.symm)) ?_
  refine R_if 1 (c := (nI NN) ≤ (nI NN)) (t := 111) (f := 58) (L' := [some (.ref 64), some (.int (nI heir)), some (.int (nI v)), some (.int 0), some (.int (nI s0)), some (.int (nI NN))]) (st' := []) (h' := mk M T) (fun _ => rfl) (fun g1 => ?_) (fun g1 => ?_)
  · replace g1 : NN ≤ NN := (nI_leI (a := NN) (b := NN) (by omega) (by omega)).mp g1
    refine R_if 5 (c := 0 ≤ (nI s0)) (t := 130) (f := 121) (L' := [some (.ref 64), some (.int (nI heir)), some (.int (nI v)), some (.int 0), some (.int (nI s0)), some (.int (nI NN))]) (st' := []) (h' := mk (up M 61 7 0) T) (fun _ => rfl) (fun g2 => ?_) (fun g2 => ?_)
    · replace g2 : 0 ≤ s0 := (nI_leI (a := 0) (b := s0) (by omega) (by omega)).mp g2
      refine R_go 3 (pc' := 136) (L' := [some (.ref 64), some (.int (nI heir)), some (.int (nI v)), some (.int 0), some (.int (nI s0)), some (.int (nI NN))]) (st' := [.int (nI s0)]) (h' := mk (up M 61 7 0) T) (fun _ => rfl) ?_
      refine R_callD (i := .invokestatic 203) (kd := 1) (y := M_X8_bits) (as := [.int (nI s0)]) (r := []) (L0 := [some (.int (nI s0)), none, none]) (v := some (.int (nI (bc s0)))) (h' := mk (up M 61 7 0) T) (pc' := 139) (st' := [.int (nI (bc s0))]) rfl rfl rfl rfl rfl rfl (c_bits (s := s0) (by omega)) ?_
      refine R_ret 2 (pcr := 144) (v := some (.int (nI (bc s0)))) (h' := mk (up M 61 7 0) T) (fun _ => rfl) ?_
      exact k1
    · replace g2 : ¬ 0 ≤ s0 := fun q => g2 ((nI_leI (a := 0) (b := s0) (by omega) (by omega)).mpr q)
      omega
  · replace g1 : ¬ NN ≤ NN := fun q => g1 ((nI_leI (a := NN) (b := NN) (by omega) (by omega)).mpr q)
    omega
set_option maxRecDepth 100000 in
set_option maxHeartbeats 4000000 in
theorem bm_e_1 {ro : xRO} {d : Nat} {M : xM} {T : Nat} {Q : Option Value → xH → Prop} {M0 Mb : xM} (h0 : Rel M0) {P : Nat} (hP0 : M0 62 6 = nI P) (h8 : P ≤ 8) {heir v NN : Nat} (h5 : heir ≤ 5) (v9 : v ≤ 99999) (hNN : NN = 2 ^ P) (hx : BM M0 Mb M) {s0 : Nat} (hs0 : s0 < NN) (k1 : Q (some (.int (nI (s0)))) (mk (up M 61 7 0) T)) : Rn ro (d + 90) M_X8_breath 44 [some (.ref 64), some (.int (nI heir)), some (.int (nI v)), some (.int 1), some (.int (nI s0)), some (.int (nI NN))] [] (mk M T) Q := by
  have n256 : NN ≤ 256 := by rw [hNN]; exact pw_P h8
  refine R_go 6 (pc' := 54) (L' := [some (.ref 64), some (.int (nI heir)), some (.int (nI v)), some (.int 1), some (.int (nI s0)), some (.int (nI NN))]) (st' := [.int (M 62 6), .int 1, .int (nI NN)]) (h' := mk M T) (fun _ => rfl) ?_
  refine R_top (y := nI P) (fm_P hx.1 hP0) ?_
  refine R_go 1 (pc' := 55) (L' := [some (.ref 64), some (.int (nI heir)), some (.int (nI v)), some (.int 1), some (.int (nI s0)), some (.int (nI NN))]) (st' := [.int (1 <<< ((nI P) &&& 31)), .int (nI NN)]) (h' := mk M T) (fun _ => rfl) ?_
  refine R_top ((sh_P h8).trans (congrArg nI hNN.symm)) ?_
  refine R_if 1 (c := (nI NN) ≤ (nI NN)) (t := 111) (f := 58) (L' := [some (.ref 64), some (.int (nI heir)), some (.int (nI v)), some (.int 1), some (.int (nI s0)), some (.int (nI NN))]) (st' := []) (h' := mk M T) (fun _ => rfl) (fun g1 => ?_) (fun g1 => ?_)
  · replace g1 : NN ≤ NN := (nI_leI (a := NN) (b := NN) (by omega) (by omega)).mp g1
    refine R_if 5 (c := 0 ≤ (nI s0)) (t := 130) (f := 121) (L' := [some (.ref 64), some (.int (nI heir)), some (.int (nI v)), some (.int 1), some (.int (nI s0)), some (.int (nI NN))]) (st' := []) (h' := mk (up M 61 7 0) T) (fun _ => rfl) (fun g2 => ?_) (fun g2 => ?_)
    · replace g2 : 0 ≤ s0 := (nI_leI (a := 0) (b := s0) (by omega) (by omega)).mp g2
      refine R_ret 4 (pcr := 144) (v := some (.int (nI s0))) (h' := mk (up M 61 7 0) T) (fun _ => rfl) ?_
      exact k1
    · replace g2 : ¬ 0 ≤ s0 := fun q => g2 ((nI_leI (a := 0) (b := s0) (by omega) (by omega)).mpr q)
      omega
  · replace g1 : ¬ NN ≤ NN := fun q => g1 ((nI_leI (a := NN) (b := NN) (by omega) (by omega)).mpr q)
    omega
def encB : Option Nat → Int32
  | none => -1
  | some s => nI s
theorem isB_s {G : Nat → Nat} {v k : Nat} {b : Option Nat} (h : isB G v k b) (hn : ¬ v ≤ G k) : isB G v (k + 1) b := by
  cases b with
  | none => intro s hs; by_cases q : s = k; (rw [q]; exact hn); exact h s (by omega)
  | some s0 => exact ⟨by have := h.1; omega, h.2.1, fun s hs hg => by
      by_cases q : s = k
      · rw [q] at hg; exact absurd hg hn
      · exact h.2.2 s (by omega) hg⟩
section BMI
variable {ro : xRO} {d : Nat} {T : Nat} {Q : Option Value → xH → Prop} {M0 Mb : xM} {P heir v NN u : Nat}
theorem lp_bm (h0 : Rel M0) (hP0 : M0 62 6 = nI P) (h8 : P ≤ 8) (h5 : heir ≤ 5) (v9 : v ≤ 99999) (hNN : NN = 2 ^ P) (kk : ∀ M' b, BM M0 Mb M' → isB (gnS M0 P heir) v NN b → Rn ro (d + 90) M_X8_breath 44 [some (.ref 64), some (.int (nI heir)), some (.int (nI v)), some (.int (nI u)), some (.int (encB b)), some (.int (nI NN))] [] (mk M' T) Q) : ∀ (k s : Nat) (b : Option Nat) (M : xM), s + k = NN → BM M0 Mb M → isB (gnS M0 P heir) v s b → Rn ro (d + 90) M_X8_breath 44 [some (.ref 64), some (.int (nI heir)), some (.int (nI v)), some (.int (nI u)), some (.int (encB b)), some (.int (nI s))] [] (mk M T) Q := by
  intro k
  induction k with
  | zero =>
    intro s b M hs hx hb
    obtain rfl : s = NN := by omega
    exact kk M b hx hb
  | succ k ih =>
    intro s b M hs hx hb
    cases b with
    | none =>
      refine bm_none h0 hP0 h8 h5 v9 hNN hx (by omega) (bm_try h0 hP0 h8 h5 v9 hNN hx (by omega) (gnS_le h8) (fun M' hx' hn => ih (s + 1) none M' (by omega) hx' (isB_s hb hn)) (fun M' hx' hg => ih (s + 1) (some s) M' (by omega) hx' ⟨by omega, hg, fun t ht hgt => ?_⟩))
      by_cases q : t = s
      · exact Or.inr ⟨by rw [q], by omega⟩
      · exact absurd hgt (hb t (by omega))
    | some s0 =>
      have h1 := hb.1
      by_cases hc : bc s < bc s0
      · refine bm_cmp h0 hP0 h8 h5 v9 hNN hx (by omega) (by omega) hc (bm_try h0 hP0 h8 h5 v9 hNN hx (by omega) (gnS_le h8) (fun M' hx' hn => ih (s + 1) (some s0) M' (by omega) hx' (isB_s hb hn)) (fun M' hx' hg => ih (s + 1) (some s) M' (by omega) hx' ⟨by omega, hg, fun t ht hgt => ?_⟩))
        by_cases q : t = s
        · exact Or.inr ⟨by rw [q], by omega⟩
        · have := hb.2.2 t (by omega) hgt
          exact Or.inl (by omega)
      · refine bm_skip h0 hP0 h8 h5 v9 hNN hx (by omega) (by omega) hc (ih (s + 1) (some s0) M (by omega) hx ⟨by omega, hb.2.1, fun t ht hgt => ?_⟩)
        by_cases q : t = s
        · rw [q]
          rcases Nat.lt_or_ge (bc s0) (bc s) with z | z
          · exact Or.inl z
          · exact Or.inr ⟨by omega, by omega⟩
        · exact hb.2.2 t (by omega) hgt
end BMI
set_option maxRecDepth 100000 in
set_option maxHeartbeats 4000000 in
theorem x_breath_o {ro : xRO} {d : Nat} {M : xM} {T : Nat} {H : Nat} (hH : M 1 7 = nI H) (h6 : H ≤ 6) {i v w : Int32} (hi : ¬ (0 ≤ i ∧ i < nI H)) : Rn ro (d + 90) M_X7_breath 0 [some (.ref 3), some (.int i), some (.int v), some (.int w), none] [] (mk M T) (fun r h => r = some (.int (-1000000001)) ∧ h = mk (up M 60 1 (M 60 1 + 1)) T) := by
  refine R_go 3 (pc' := 5) (L' := [some (.ref 3), some (.int i), some (.int v), some (.int w), none]) (st' := [.int i, .ref 4]) (h' := mk M T) (fun _ => rfl) ?_
  refine R_call2 (i := .invokevirtual 82) (kd := 0) (y := M_X0_hasHeir) (as := [.ref 4, .int i]) (r := []) (L0 := [some (.ref 4), some (.int i)]) (v1 := some (.int 1)) (v2 := some (.int 0)) (h1' := mk M T) (h2' := mk M T) (pc' := 8) (st1 := [.int 1]) (st2 := [.int 0]) rfl rfl rfl rfl rfl rfl (c_hasHeir hH h6) (fun g1 => ?_) (fun g1 => ?_)
  · exact absurd g1 (hi)
  · refine R_go 3 (pc' := 32) (L' := [some (.ref 3), some (.int i), some (.int v), some (.int w), none]) (st' := [.int 1, .ref 3]) (h' := mk M T) (fun _ => rfl) ?_
    refine R_callD (i := .invokevirtual 75) (kd := 0) (y := M_X7_error) (as := [.ref 3, .int 1]) (r := []) (L0 := [some (.ref 3), some (.int 1)]) (v := some (.int (-1000000001))) (h' := mk (up M 60 1 (M 60 1 + 1)) T) (pc' := 35) (st' := [.int (-1000000001)]) rfl rfl rfl rfl rfl rfl (c_error_1) ?_
    refine R_ret 1 (pcr := 35) (v := some (.int (-1000000001))) (h' := mk (up M 60 1 (M 60 1 + 1)) T) (fun _ => rfl) ?_
    exact ⟨rfl, rfl⟩
set_option maxRecDepth 100000 in
set_option maxHeartbeats 4000000 in
theorem m_breath_o {ro : xRO} {d : Nat} {M : xM} {T : Nat} {H : Nat} (hH : M 62 7 = nI H) (h6 : H ≤ 6) {i v w : Int32} (hi : ¬ (0 ≤ i ∧ i < nI H)) : Rn ro (d + 90) M_X8_breath 0 [some (.ref 64), some (.int i), some (.int v), some (.int w), none, none] [] (mk M T) (fun r h => r = some (.int (-1000000001)) ∧ h = mk (up M 64 1 (M 64 1 + 1)) T) := by
  refine R_go 2 (pc' := 2) (L' := [some (.ref 64), some (.int i), some (.int v), some (.int w), none, none]) (st' := [.int i, .ref 64]) (h' := mk M T) (fun _ => rfl) ?_
  refine R_call2 (i := .invokevirtual 88) (kd := 0) (y := M_X8_isHeir) (as := [.ref 64, .int i]) (r := []) (L0 := [some (.ref 64), some (.int i)]) (v1 := some (.int 1)) (v2 := some (.int 0)) (h1' := mk M T) (h2' := mk M T) (pc' := 5) (st1 := [.int 1]) (st2 := [.int 0]) rfl rfl rfl rfl rfl rfl (m_isHeir hH h6) (fun g1 => ?_) (fun g1 => ?_)
  · exact absurd g1 (hi)
  · refine R_go 3 (pc' := 30) (L' := [some (.ref 64), some (.int i), some (.int v), some (.int w), none, none]) (st' := [.int (-1000000001), .ref 64]) (h' := mk M T) (fun _ => rfl) ?_
    refine R_callD (i := .invokevirtual 81) (kd := 0) (y := M_X8_error) (as := [.ref 64, .int (-1000000001)]) (r := []) (L0 := [some (.ref 64), some (.int (-1000000001))]) (v := some (.int (-1000000001))) (h' := mk (up M 64 1 (M 64 1 + 1)) T) (pc' := 33) (st' := [.int (-1000000001)]) rfl rfl rfl rfl rfl rfl (m_error_1) ?_
    refine R_ret 1 (pcr := 33) (v := some (.int (-1000000001))) (h' := mk (up M 64 1 (M 64 1 + 1)) T) (fun _ => rfl) ?_
    exact ⟨rfl, rfl⟩
set_option maxRecDepth 100000 in
set_option maxHeartbeats 4000000 in
theorem x_breath_b1 {ro : xRO} {d : Nat} {M : xM} {T : Nat} {H : Nat} (hH : M 1 7 = nI H) (h6 : H ≤ 6) {heir : Nat} (hh : heir < H) {v w : Int32} (hv : ¬ (0 ≤ v ∧ v ≤ 99999)) : Rn ro (d + 90) M_X7_breath 0 [some (.ref 3), some (.int (nI heir)), some (.int v), some (.int w), none] [] (mk M T) (fun r h => r = some (.int (-1000000001)) ∧ h = mk (up M 60 1 (M 60 1 + 1)) T) := by
  refine R_go 3 (pc' := 5) (L' := [some (.ref 3), some (.int (nI heir)), some (.int v), some (.int w), none]) (st' := [.int (nI heir), .ref 4]) (h' := mk M T) (fun _ => rfl) ?_
  refine R_call2 (i := .invokevirtual 82) (kd := 0) (y := M_X0_hasHeir) (as := [.ref 4, .int (nI heir)]) (r := []) (L0 := [some (.ref 4), some (.int (nI heir))]) (v1 := some (.int 1)) (v2 := some (.int 0)) (h1' := mk M T) (h2' := mk M T) (pc' := 8) (st1 := [.int 1]) (st2 := [.int 0]) rfl rfl rfl rfl rfl rfl (c_hasHeir hH h6) (fun g1 => ?_) (fun g1 => ?_)
  · refine R_go 4 (pc' := 15) (L' := [some (.ref 3), some (.int (nI heir)), some (.int v), some (.int w), none]) (st' := [.int 99999, .int 0, .int v]) (h' := mk M T) (fun _ => rfl) ?_
    refine R_call2 (i := .invokestatic 78) (kd := 1) (y := M_X7_within) (as := [.int v, .int 0, .int 99999]) (r := []) (L0 := [some (.int v), some (.int 0), some (.int 99999)]) (v1 := some (.int 1)) (v2 := some (.int 0)) (h1' := mk M T) (h2' := mk M T) (pc' := 18) (st1 := [.int 1]) (st2 := [.int 0]) rfl rfl rfl rfl rfl rfl (c_within) (fun g2 => ?_) (fun g2 => ?_)
    · exact absurd g2 (hv)
    · refine R_go 3 (pc' := 32) (L' := [some (.ref 3), some (.int (nI heir)), some (.int v), some (.int w), none]) (st' := [.int 1, .ref 3]) (h' := mk M T) (fun _ => rfl) ?_
      refine R_callD (i := .invokevirtual 75) (kd := 0) (y := M_X7_error) (as := [.ref 3, .int 1]) (r := []) (L0 := [some (.ref 3), some (.int 1)]) (v := some (.int (-1000000001))) (h' := mk (up M 60 1 (M 60 1 + 1)) T) (pc' := 35) (st' := [.int (-1000000001)]) rfl rfl rfl rfl rfl rfl (c_error_1) ?_
      refine R_ret 1 (pcr := 35) (v := some (.int (-1000000001))) (h' := mk (up M 60 1 (M 60 1 + 1)) T) (fun _ => rfl) ?_
      exact ⟨rfl, rfl⟩
  · exact absurd (⟨nI_pos' (by omega), nI_lt hh (by omega)⟩) g1
set_option maxRecDepth 100000 in
set_option maxHeartbeats 4000000 in
theorem m_breath_b1 {ro : xRO} {d : Nat} {M : xM} {T : Nat} {H : Nat} (hH : M 62 7 = nI H) (h6 : H ≤ 6) {heir : Nat} (hh : heir < H) {v w : Int32} (hv : ¬ (0 ≤ v ∧ v ≤ 99999)) : Rn ro (d + 90) M_X8_breath 0 [some (.ref 64), some (.int (nI heir)), some (.int v), some (.int w), none, none] [] (mk M T) (fun r h => r = some (.int (-1000000001)) ∧ h = mk (up M 64 1 (M 64 1 + 1)) T) := by
  refine R_go 2 (pc' := 2) (L' := [some (.ref 64), some (.int (nI heir)), some (.int v), some (.int w), none, none]) (st' := [.int (nI heir), .ref 64]) (h' := mk M T) (fun _ => rfl) ?_
  refine R_call2 (i := .invokevirtual 88) (kd := 0) (y := M_X8_isHeir) (as := [.ref 64, .int (nI heir)]) (r := []) (L0 := [some (.ref 64), some (.int (nI heir))]) (v1 := some (.int 1)) (v2 := some (.int 0)) (h1' := mk M T) (h2' := mk M T) (pc' := 5) (st1 := [.int 1]) (st2 := [.int 0]) rfl rfl rfl rfl rfl rfl (m_isHeir hH h6) (fun g1 => ?_) (fun g1 => ?_)
  · refine R_go 4 (pc' := 12) (L' := [some (.ref 64), some (.int (nI heir)), some (.int v), some (.int w), none, none]) (st' := [.int 99999, .int 0, .int v]) (h' := mk M T) (fun _ => rfl) ?_
    refine R_call2 (i := .invokestatic 53) (kd := 1) (y := M_X8_in) (as := [.int v, .int 0, .int 99999]) (r := []) (L0 := [some (.int v), some (.int 0), some (.int 99999)]) (v1 := some (.int 1)) (v2 := some (.int 0)) (h1' := mk M T) (h2' := mk M T) (pc' := 15) (st1 := [.int 1]) (st2 := [.int 0]) rfl rfl rfl rfl rfl rfl (m_in) (fun g2 => ?_) (fun g2 => ?_)
    · exact absurd g2 (hv)
    · refine R_go 3 (pc' := 30) (L' := [some (.ref 64), some (.int (nI heir)), some (.int v), some (.int w), none, none]) (st' := [.int (-1000000001), .ref 64]) (h' := mk M T) (fun _ => rfl) ?_
      refine R_callD (i := .invokevirtual 81) (kd := 0) (y := M_X8_error) (as := [.ref 64, .int (-1000000001)]) (r := []) (L0 := [some (.ref 64), some (.int (-1000000001))]) (v := some (.int (-1000000001))) (h' := mk (up M 64 1 (M 64 1 + 1)) T) (pc' := 33) (st' := [.int (-1000000001)]) rfl rfl rfl rfl rfl rfl (m_error_1) ?_
      refine R_ret 1 (pcr := 33) (v := some (.int (-1000000001))) (h' := mk (up M 64 1 (M 64 1 + 1)) T) (fun _ => rfl) ?_
      exact ⟨rfl, rfl⟩
  · exact absurd (⟨nI_pos' (by omega), nI_lt hh (by omega)⟩) g1
set_option maxRecDepth 100000 in
set_option maxHeartbeats 4000000 in
theorem x_breath_b2 {ro : xRO} {d : Nat} {M : xM} {T : Nat} {H : Nat} (hH : M 1 7 = nI H) (h6 : H ≤ 6) {heir : Nat} (hh : heir < H) {v : Nat} {w : Int32} (v9 : v ≤ 99999) (hv : ¬ (0 ≤ w ∧ w ≤ 1)) : Rn ro (d + 90) M_X7_breath 0 [some (.ref 3), some (.int (nI heir)), some (.int (nI v)), some (.int w), none] [] (mk M T) (fun r h => r = some (.int (-1000000001)) ∧ h = mk (up M 60 1 (M 60 1 + 1)) T) := by
  refine R_go 3 (pc' := 5) (L' := [some (.ref 3), some (.int (nI heir)), some (.int (nI v)), some (.int w), none]) (st' := [.int (nI heir), .ref 4]) (h' := mk M T) (fun _ => rfl) ?_
  refine R_call2 (i := .invokevirtual 82) (kd := 0) (y := M_X0_hasHeir) (as := [.ref 4, .int (nI heir)]) (r := []) (L0 := [some (.ref 4), some (.int (nI heir))]) (v1 := some (.int 1)) (v2 := some (.int 0)) (h1' := mk M T) (h2' := mk M T) (pc' := 8) (st1 := [.int 1]) (st2 := [.int 0]) rfl rfl rfl rfl rfl rfl (c_hasHeir hH h6) (fun g1 => ?_) (fun g1 => ?_)
  · refine R_go 4 (pc' := 15) (L' := [some (.ref 3), some (.int (nI heir)), some (.int (nI v)), some (.int w), none]) (st' := [.int 99999, .int 0, .int (nI v)]) (h' := mk M T) (fun _ => rfl) ?_
    refine R_call2 (i := .invokestatic 78) (kd := 1) (y := M_X7_within) (as := [.int (nI v), .int 0, .int 99999]) (r := []) (L0 := [some (.int (nI v)), some (.int 0), some (.int 99999)]) (v1 := some (.int 1)) (v2 := some (.int 0)) (h1' := mk M T) (h2' := mk M T) (pc' := 18) (st1 := [.int 1]) (st2 := [.int 0]) rfl rfl rfl rfl rfl rfl (c_within) (fun g2 => ?_) (fun g2 => ?_)
    · refine R_go 4 (pc' := 24) (L' := [some (.ref 3), some (.int (nI heir)), some (.int (nI v)), some (.int w), none]) (st' := [.int 1, .int 0, .int w]) (h' := mk M T) (fun _ => rfl) ?_
      refine R_call2 (i := .invokestatic 78) (kd := 1) (y := M_X7_within) (as := [.int w, .int 0, .int 1]) (r := []) (L0 := [some (.int w), some (.int 0), some (.int 1)]) (v1 := some (.int 1)) (v2 := some (.int 0)) (h1' := mk M T) (h2' := mk M T) (pc' := 27) (st1 := [.int 1]) (st2 := [.int 0]) rfl rfl rfl rfl rfl rfl (c_within) (fun g3 => ?_) (fun g3 => ?_)
      · exact absurd g3 (hv)
      · refine R_go 3 (pc' := 32) (L' := [some (.ref 3), some (.int (nI heir)), some (.int (nI v)), some (.int w), none]) (st' := [.int 1, .ref 3]) (h' := mk M T) (fun _ => rfl) ?_
        refine R_callD (i := .invokevirtual 75) (kd := 0) (y := M_X7_error) (as := [.ref 3, .int 1]) (r := []) (L0 := [some (.ref 3), some (.int 1)]) (v := some (.int (-1000000001))) (h' := mk (up M 60 1 (M 60 1 + 1)) T) (pc' := 35) (st' := [.int (-1000000001)]) rfl rfl rfl rfl rfl rfl (c_error_1) ?_
        refine R_ret 1 (pcr := 35) (v := some (.int (-1000000001))) (h' := mk (up M 60 1 (M 60 1 + 1)) T) (fun _ => rfl) ?_
        exact ⟨rfl, rfl⟩
    · exact absurd (nI_in2 (a := 0) (b := 99999) (by omega) (by omega) (by omega)) g2
  · exact absurd (⟨nI_pos' (by omega), nI_lt hh (by omega)⟩) g1
set_option maxRecDepth 100000 in
set_option maxHeartbeats 4000000 in
theorem m_breath_b2 {ro : xRO} {d : Nat} {M : xM} {T : Nat} {H : Nat} (hH : M 62 7 = nI H) (h6 : H ≤ 6) {heir : Nat} (hh : heir < H) {v : Nat} {w : Int32} (v9 : v ≤ 99999) (hv : ¬ (0 ≤ w ∧ w ≤ 1)) : Rn ro (d + 90) M_X8_breath 0 [some (.ref 64), some (.int (nI heir)), some (.int (nI v)), some (.int w), none, none] [] (mk M T) (fun r h => r = some (.int (-1000000001)) ∧ h = mk (up M 64 1 (M 64 1 + 1)) T) := by
  refine R_go 2 (pc' := 2) (L' := [some (.ref 64), some (.int (nI heir)), some (.int (nI v)), some (.int w), none, none]) (st' := [.int (nI heir), .ref 64]) (h' := mk M T) (fun _ => rfl) ?_
  refine R_call2 (i := .invokevirtual 88) (kd := 0) (y := M_X8_isHeir) (as := [.ref 64, .int (nI heir)]) (r := []) (L0 := [some (.ref 64), some (.int (nI heir))]) (v1 := some (.int 1)) (v2 := some (.int 0)) (h1' := mk M T) (h2' := mk M T) (pc' := 5) (st1 := [.int 1]) (st2 := [.int 0]) rfl rfl rfl rfl rfl rfl (m_isHeir hH h6) (fun g1 => ?_) (fun g1 => ?_)
  · refine R_go 4 (pc' := 12) (L' := [some (.ref 64), some (.int (nI heir)), some (.int (nI v)), some (.int w), none, none]) (st' := [.int 99999, .int 0, .int (nI v)]) (h' := mk M T) (fun _ => rfl) ?_
    refine R_call2 (i := .invokestatic 53) (kd := 1) (y := M_X8_in) (as := [.int (nI v), .int 0, .int 99999]) (r := []) (L0 := [some (.int (nI v)), some (.int 0), some (.int 99999)]) (v1 := some (.int 1)) (v2 := some (.int 0)) (h1' := mk M T) (h2' := mk M T) (pc' := 15) (st1 := [.int 1]) (st2 := [.int 0]) rfl rfl rfl rfl rfl rfl (m_in) (fun g2 => ?_) (fun g2 => ?_)
    · refine R_go 4 (pc' := 21) (L' := [some (.ref 64), some (.int (nI heir)), some (.int (nI v)), some (.int w), none, none]) (st' := [.int 1, .int 0, .int w]) (h' := mk M T) (fun _ => rfl) ?_
      refine R_call2 (i := .invokestatic 53) (kd := 1) (y := M_X8_in) (as := [.int w, .int 0, .int 1]) (r := []) (L0 := [some (.int w), some (.int 0), some (.int 1)]) (v1 := some (.int 1)) (v2 := some (.int 0)) (h1' := mk M T) (h2' := mk M T) (pc' := 24) (st1 := [.int 1]) (st2 := [.int 0]) rfl rfl rfl rfl rfl rfl (m_in) (fun g3 => ?_) (fun g3 => ?_)
      · exact absurd g3 (hv)
      · refine R_go 3 (pc' := 30) (L' := [some (.ref 64), some (.int (nI heir)), some (.int (nI v)), some (.int w), none, none]) (st' := [.int (-1000000001), .ref 64]) (h' := mk M T) (fun _ => rfl) ?_
        refine R_callD (i := .invokevirtual 81) (kd := 0) (y := M_X8_error) (as := [.ref 64, .int (-1000000001)]) (r := []) (L0 := [some (.ref 64), some (.int (-1000000001))]) (v := some (.int (-1000000001))) (h' := mk (up M 64 1 (M 64 1 + 1)) T) (pc' := 33) (st' := [.int (-1000000001)]) rfl rfl rfl rfl rfl rfl (m_error_1) ?_
        refine R_ret 1 (pcr := 33) (v := some (.int (-1000000001))) (h' := mk (up M 64 1 (M 64 1 + 1)) T) (fun _ => rfl) ?_
        exact ⟨rfl, rfl⟩
    · exact absurd (nI_in2 (a := 0) (b := 99999) (by omega) (by omega) (by omega)) g2
  · exact absurd (⟨nI_pos' (by omega), nI_lt hh (by omega)⟩) g1
