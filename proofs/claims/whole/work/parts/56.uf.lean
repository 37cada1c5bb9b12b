/-! ROUNDS: takeOrder, isRound, round -/
def mkF (ord : Nat → Nat) : Nat → Int32
  | 0 => 0
  | i + 1 => (mkF ord i) ||| (1 <<< ((nI (ord i)) &&& 31))
def ordF (cs : Nat → Int32) : Nat → Nat := fun i => (cs i).toNatClampNeg
def bitP (s : Int32) (v : Nat) : Prop := ((s >>> ((nI v) &&& 31)) &&& 1) = 1
def trF (cs : Nat → Int32) (P : Nat) : Nat → Bool := fun i => !decide (0 ≤ cs i ∧ cs i < nI P ∧ ¬ (((mkF (ordF cs) i) >>> ((nI (ordF cs i)) &&& 31)) &&& 1) = 1)
theorem trF_f {cs : Nat → Int32} {P i : Nat} (hP : P ≤ 8) (h : ¬ trF cs P i = true) : ∃ v, v < P ∧ cs i = nI v ∧ ordF cs i = v ∧ ¬ bitP (mkF (ordF cs) i) v := by
  have k : 0 ≤ cs i ∧ cs i < nI P ∧ ¬ (((mkF (ordF cs) i) >>> ((nI (ordF cs i)) &&& 31)) &&& 1) = 1 := Classical.byContradiction (fun q => h (by unfold trF; rw [decide_eq_false q]; rfl))
  rcases nI_cases (cs i) P (by omega) with ⟨v, v1, v2⟩ | q
  · have e : ordF cs i = v := by unfold ordF; rw [v2, nI_clamp (by omega)]
    refine ⟨v, v1, v2, e, ?_⟩
    have := k.2.2
    rw [e] at this
    exact this
  · exact absurd ⟨k.1, k.2.1⟩ q
theorem trF_t {cs : Nat → Int32} {P i : Nat} (hP : P ≤ 8) (h : trF cs P i = true) : (¬ (0 ≤ cs i ∧ cs i < nI P)) ∨ ∃ v, v < P ∧ cs i = nI v ∧ bitP (mkF (ordF cs) i) v := by
  rcases nI_cases (cs i) P (by omega) with ⟨v, v1, v2⟩ | q
  · have e : ordF cs i = v := by unfold ordF; rw [v2, nI_clamp (by omega)]
    refine Or.inr ⟨v, v1, v2, Classical.byContradiction (fun q => ?_)⟩
    have : 0 ≤ cs i ∧ cs i < nI P ∧ ¬ (((mkF (ordF cs) i) >>> ((nI (ordF cs i)) &&& 31)) &&& 1) = 1 := ⟨by rw [v2]; exact nI_pos' (by omega), by rw [v2]; exact nI_lt v1 (by omega), by rw [e]; exact q⟩
    unfold trF at h
    rw [decide_eq_true this] at h
    exact absurd h (by decide)
  · exact Or.inl q
def f42 (M M' : xM) : Prop := ∀ c, c ≠ 42 → M' c = M c
def f72 (M M' : xM) : Prop := ∀ c, c ≠ 72 → M' c = M c
set_option maxRecDepth 100000 in
set_option maxHeartbeats 4000000 in
theorem to_bad {ro : xRO} {d : Nat} {M : xM} {T : Nat} {Q : Option Value → xH → Prop} {e : Nat} (he : e < 4) {P : Nat} (h8 : P ≤ 8) (hz : M (52 + 2 * e) 2 = nI P) {i : Nat} (hi : i < P) {s : Int32} {w : Option Value} {y : Int32} (hy : M (53 + 2 * e) i = y) (hv : ¬ (0 ≤ y ∧ y < nI P)) (k1 : Q (some (.int 0)) (mk M T)) : Rn ro (d + 4) M_X3_takeOrder 31 [some (.ref 42), some (.ref (52 + 2 * e + 3)), some (.int (nI P)), some (.int s), some (.int (nI i)), w] [] (mk M T) Q := by
  refine R_if 3 (c := (nI P) ≤ (nI i)) (t := 90) (f := 37) (L' := [some (.ref 42), some (.ref (52 + 2 * e + 3)), some (.int (nI P)), some (.int s), some (.int (nI i)), w]) (st' := []) (h' := mk M T) (fun _ => rfl) (fun g1 => ?_) (fun g1 => ?_)
  · replace g1 : P ≤ i := (nI_leI (a := P) (b := i) (by omega) (by omega)).mp g1
    omega
  · replace g1 : ¬ P ≤ i := fun q => g1 ((nI_leI (a := P) (b := i) (by omega) (by omega)).mpr q)
    refine R_go 2 (pc' := 40) (L' := [some (.ref 42), some (.ref (52 + 2 * e + 3)), some (.int (nI P)), some (.int s), some (.int (nI i)), w]) (st' := [.int (nI i), .ref (52 + 2 * e + 3)]) (h' := mk M T) (fun _ => rfl) ?_
    refine R_callD (i := .invokevirtual 77) (kd := 0) (y := M_X4_numberAt) (as := [.ref (52 + 2 * e + 3), .int (nI i)]) (r := []) (L0 := [some (.ref (52 + 2 * e + 3)), some (.int (nI i))]) (v := some (.int (M (53 + 2 * e) i))) (h' := mk M T) (pc' := 43) (st' := [.int (M (53 + 2 * e) i)]) rfl rfl rfl rfl (xPre_c (sh_sheet (by omega)) rfl rfl rfl rfl) rfl (c_numberAt (e := e) (n := i) he hz (by omega) (by omega)) ?_
    refine R_top hy ?_
    refine R_if 3 (c := y < 0) (t := 66) (f := 50) (L' := [some (.ref 42), some (.ref (52 + 2 * e + 3)), some (.int (nI P)), some (.int s), some (.int (nI i)), some (.int y)]) (st' := []) (h' := mk M T) (fun _ => rfl) (fun g2 => ?_) (fun g2 => ?_)
    · refine R_ret 2 (pcr := 67) (v := some (.int 0)) (h' := mk M T) (fun _ => rfl) ?_
      exact k1
    · refine R_if 3 (c := (nI P) ≤ y) (t := 66) (f := 56) (L' := [some (.ref 42), some (.ref (52 + 2 * e + 3)), some (.int (nI P)), some (.int s), some (.int (nI i)), some (.int y)]) (st' := []) (h' := mk M T) (fun _ => rfl) (fun g3 => ?_) (fun g3 => ?_)
      · refine R_ret 2 (pcr := 67) (v := some (.int 0)) (h' := mk M T) (fun _ => rfl) ?_
        exact k1
      · exact absurd ⟨k2_le g2, k2_lt g3⟩ hv
set_option maxRecDepth 100000 in
set_option maxHeartbeats 4000000 in
theorem to_dup {ro : xRO} {d : Nat} {M : xM} {T : Nat} {Q : Option Value → xH → Prop} {e : Nat} (he : e < 4) {P : Nat} (h8 : P ≤ 8) (hz : M (52 + 2 * e) 2 = nI P) {i : Nat} (hi : i < P) {s : Int32} {w : Option Value} {v : Nat} (hv : v < P) (hy : M (53 + 2 * e) i = nI v) (hb : bitP s v) (k1 : Q (some (.int 0)) (mk M T)) : Rn ro (d + 4) M_X3_takeOrder 31 [some (.ref 42), some (.ref (52 + 2 * e + 3)), some (.int (nI P)), some (.int s), some (.int (nI i)), w] [] (mk M T) Q := by
  refine R_if 3 (c := (nI P) ≤ (nI i)) (t := 90) (f := 37) (L' := [some (.ref 42), some (.ref (52 + 2 * e + 3)), some (.int (nI P)), some (.int s), some (.int (nI i)), w]) (st' := []) (h' := mk M T) (fun _ => rfl) (fun g1 => ?_) (fun g1 => ?_)
  · replace g1 : P ≤ i := (nI_leI (a := P) (b := i) (by omega) (by omega)).mp g1
    omega
  · replace g1 : ¬ P ≤ i := fun q => g1 ((nI_leI (a := P) (b := i) (by omega) (by omega)).mpr q)
    refine R_go 2 (pc' := 40) (L' := [some (.ref 42), some (.ref (52 + 2 * e + 3)), some (.int (nI P)), some (.int s), some (.int (nI i)), w]) (st' := [.int (nI i), .ref (52 + 2 * e + 3)]) (h' := mk M T) (fun _ => rfl) ?_
    refine R_callD (i := .invokevirtual 77) (kd := 0) (y := M_X4_numberAt) (as := [.ref (52 + 2 * e + 3), .int (nI i)]) (r := []) (L0 := [some (.ref (52 + 2 * e + 3)), some (.int (nI i))]) (v := some (.int (M (53 + 2 * e) i))) (h' := mk M T) (pc' := 43) (st' := [.int (M (53 + 2 * e) i)]) rfl rfl rfl rfl (xPre_c (sh_sheet (by omega)) rfl rfl rfl rfl) rfl (c_numberAt (e := e) (n := i) he hz (by omega) (by omega)) ?_
    refine R_top hy ?_
    refine R_if 3 (c := (nI v) < 0) (t := 66) (f := 50) (L' := [some (.ref 42), some (.ref (52 + 2 * e + 3)), some (.int (nI P)), some (.int s), some (.int (nI i)), some (.int (nI v))]) (st' := []) (h' := mk M T) (fun _ => rfl) (fun g2 => ?_) (fun g2 => ?_)
    · replace g2 : v < 0 := (nI_ltI (a := v) (b := 0) (by omega) (by omega)).mp g2
      omega
    · replace g2 : ¬ v < 0 := fun q => g2 ((nI_ltI (a := v) (b := 0) (by omega) (by omega)).mpr q)
      refine R_if 3 (c := (nI P) ≤ (nI v)) (t := 66) (f := 56) (L' := [some (.ref 42), some (.ref (52 + 2 * e + 3)), some (.int (nI P)), some (.int s), some (.int (nI i)), some (.int (nI v))]) (st' := []) (h' := mk M T) (fun _ => rfl) (fun g3 => ?_) (fun g3 => ?_)
      · replace g3 : P ≤ v := (nI_leI (a := P) (b := v) (by omega) (by omega)).mp g3
        omega
      · replace g3 : ¬ P ≤ v := fun q => g3 ((nI_leI (a := P) (b := v) (by omega) (by omega)).mpr q)
        refine R_ifn 7 (c := ((s >>> ((nI v) &&& 31)) &&& 1) = 1) (t := 68) (f := 66) (L' := [some (.ref 42), some (.ref (52 + 2 * e + 3)), some (.int (nI P)), some (.int s), some (.int (nI i)), some (.int (nI v))]) (st' := []) (h' := mk M T) (fun _ => rfl) (fun g4 => ?_) (fun g4 => ?_)
        · exact absurd (hb) g4
        · refine R_ret 2 (pcr := 67) (v := some (.int 0)) (h' := mk M T) (fun _ => rfl) ?_
          exact k1
set_option maxRecDepth 100000 in
set_option maxHeartbeats 4000000 in
theorem to_ok {ro : xRO} {d : Nat} {M : xM} {T : Nat} {Q : Option Value → xH → Prop} {e : Nat} (he : e < 4) {P : Nat} (h8 : P ≤ 8) (hz : M (52 + 2 * e) 2 = nI P) {i : Nat} (hi : i < P) {s : Int32} {w : Option Value} {v : Nat} (hv : v < P) (hy : M (53 + 2 * e) i = nI v) (hb : ¬ bitP s v) (k1 : Rn ro (d + 4) M_X3_takeOrder 31 [some (.ref 42), some (.ref (52 + 2 * e + 3)), some (.int (nI P)), some (.int (s ||| (1 <<< ((nI v) &&& 31)))), some (.int (nI (i + 1))), some (.int (nI v))] [] (mk (up M 42 i (nI v)) T) Q) : Rn ro (d + 4) M_X3_takeOrder 31 [some (.ref 42), some (.ref (52 + 2 * e + 3)), some (.int (nI P)), some (.int s), some (.int (nI i)), w] [] (mk M T) Q := by
  refine R_if 3 (c := (nI P) ≤ (nI i)) (t := 90) (f := 37) (L' := [some (.ref 42), some (.ref (52 + 2 * e + 3)), some (.int (nI P)), some (.int s), some (.int (nI i)), w]) (st' := []) (h' := mk M T) (fun _ => rfl) (fun g1 => ?_) (fun g1 => ?_)
  · replace g1 : P ≤ i := (nI_leI (a := P) (b := i) (by omega) (by omega)).mp g1
    omega
  · replace g1 : ¬ P ≤ i := fun q => g1 ((nI_leI (a := P) (b := i) (by omega) (by omega)).mpr q)
    refine R_go 2 (pc' := 40) (L' := [some (.ref 42), some (.ref (52 + 2 * e + 3)), some (.int (nI P)), some (.int s), some (.int (nI i)), w]) (st' := [.int (nI i), .ref (52 + 2 * e + 3)]) (h' := mk M T) (fun _ => rfl) ?_
    refine R_callD (i := .invokevirtual 77) (kd := 0) (y := M_X4_numberAt) (as := [.ref (52 + 2 * e + 3), .int (nI i)]) (r := []) (L0 := [some (.ref (52 + 2 * e + 3)), some (.int (nI i))]) (v := some (.int (M (53 + 2 * e) i))) (h' := mk M T) (pc' := 43) (st' := [.int (M (53 + 2 * e) i)]) rfl rfl rfl rfl (xPre_c (sh_sheet (by omega)) rfl rfl rfl rfl) rfl (c_numberAt (e := e) (n := i) he hz (by omega) (by omega)) ?_
    refine R_top hy ?_
    refine R_if 3 (c := (nI v) < 0) (t := 66) (f := 50) (L' := [some (.ref 42), some (.ref (52 + 2 * e + 3)), some (.int (nI P)), some (.int s), some (.int (nI i)), some (.int (nI v))]) (st' := []) (h' := mk M T) (fun _ => rfl) (fun g2 => ?_) (fun g2 => ?_)
    · replace g2 : v < 0 := (nI_ltI (a := v) (b := 0) (by omega) (by omega)).mp g2
      omega
    · replace g2 : ¬ v < 0 := fun q => g2 ((nI_ltI (a := v) (b := 0) (by omega) (by omega)).mpr q)
      refine R_if 3 (c := (nI P) ≤ (nI v)) (t := 66) (f := 56) (L' := [some (.ref 42), some (.ref (52 + 2 * e + 3)), some (.int (nI P)), some (.int s), some (.int (nI i)), some (.int (nI v))]) (st' := []) (h' := mk M T) (fun _ => rfl) (fun g3 => ?_) (fun g3 => ?_)
      · replace g3 : P ≤ v := (nI_leI (a := P) (b := v) (by omega) (by omega)).mp g3
        omega
      · replace g3 : ¬ P ≤ v := fun q => g3 ((nI_leI (a := P) (b := v) (by omega) (by omega)).mpr q)
        refine R_ifn 7 (c := ((s >>> ((nI v) &&& 31)) &&& 1) = 1) (t := 68) (f := 66) (L' := [some (.ref 42), some (.ref (52 + 2 * e + 3)), some (.int (nI P)), some (.int s), some (.int (nI i)), some (.int (nI v))]) (st' := []) (h' := mk M T) (fun _ => rfl) (fun g4 => ?_) (fun g4 => ?_)
        · refine R_go 10 (pc' := 83) (L' := [some (.ref 42), some (.ref (52 + 2 * e + 3)), some (.int (nI P)), some (.int (s ||| (1 <<< ((nI v) &&& 31)))), some (.int (nI i)), some (.int (nI v))]) (st' := [.int (nI v), .int (nI i), .ref 45]) (h' := mk M T) (fun _ => rfl) ?_
          refine R_iast (c := 42) (n := 8) (j := i) rfl rfl (by omega) (by decide) ?_
          refine R_go 1 (pc' := 87) (L' := [some (.ref 42), some (.ref (52 + 2 * e + 3)), some (.int (nI P)), some (.int (s ||| (1 <<< ((nI v) &&& 31)))), some (.int ((nI i) + 1)), some (.int (nI v))]) (st' := []) (h' := mk (up M 42 i (nI v)) T) (fun _ => rfl) ?_
          rw [nI_1]
          refine R_go 1 (pc' := 31) (L' := [some (.ref 42), some (.ref (52 + 2 * e + 3)), some (.int (nI P)), some (.int (s ||| (1 <<< ((nI v) &&& 31)))), some (.int (nI (i + 1))), some (.int (nI v))]) (st' := []) (h' := mk (up M 42 i (nI v)) T) (fun _ => rfl) ?_
          exact k1
        · exact absurd g4 (hb)
set_option maxRecDepth 100000 in
set_option maxHeartbeats 4000000 in
theorem to_end {ro : xRO} {d : Nat} {M : xM} {T : Nat} {Q : Option Value → xH → Prop} {e P : Nat} (h8 : P ≤ 8) {s : Int32} {w : Option Value} (k1 : Q (some (.int 1)) (mk M T)) : Rn ro (d + 4) M_X3_takeOrder 31 [some (.ref 42), some (.ref (52 + 2 * e + 3)), some (.int (nI P)), some (.int s), some (.int (nI P)), w] [] (mk M T) Q := by
  refine R_if 3 (c := (nI P) ≤ (nI P)) (t := 90) (f := 37) (L' := [some (.ref 42), some (.ref (52 + 2 * e + 3)), some (.int (nI P)), some (.int s), some (.int (nI P)), w]) (st' := []) (h' := mk M T) (fun _ => rfl) (fun g1 => ?_) (fun g1 => ?_)
  · replace g1 : P ≤ P := (nI_leI (a := P) (b := P) (by omega) (by omega)).mp g1
    refine R_ret 2 (pcr := 91) (v := some (.int 1)) (h' := mk M T) (fun _ => rfl) ?_
    exact k1
  · replace g1 : ¬ P ≤ P := fun q => g1 ((nI_leI (a := P) (b := P) (by omega) (by omega)).mpr q)
    omega
set_option maxRecDepth 100000 in
set_option maxHeartbeats 4000000 in
theorem io_bad {ro : xRO} {d : Nat} {M : xM} {T : Nat} {Q : Option Value → xH → Prop} {e : Nat} (he : e < 4) {P : Nat} (h8 : P ≤ 8) (hz : M 66 e = nI P) (hP : M 62 6 = nI P) {i : Nat} (hi : i < P) {s : Int32} {w : Option Value} {y : Int32} (hy : M 67 (24 * e + i) = y) (hv : ¬ (0 ≤ y ∧ y < nI P)) (k1 : Q (some (.int 0)) (mk M T)) : Rn ro (d + 4) M_X8_isRound 31 [some (.ref 64), some (.int (nI e)), some (.int s), some (.int (nI i)), w] [] (mk M T) Q := by
  refine R_go 4 (pc' := 37) (L' := [some (.ref 64), some (.int (nI e)), some (.int s), some (.int (nI i)), w]) (st' := [.int (nI e), .ref 69, .int (nI i)]) (h' := mk M T) (fun _ => rfl) ?_
  refine R_iald (c := 66) (n := 4) (j := e) rfl rfl (by omega) (by decide) ?_
  refine R_top (y := nI P) (hz) ?_
  refine R_if 1 (c := (nI P) ≤ (nI i)) (t := 96) (f := 41) (L' := [some (.ref 64), some (.int (nI e)), some (.int s), some (.int (nI i)), w]) (st' := []) (h' := mk M T) (fun _ => rfl) (fun g1 => ?_) (fun g1 => ?_)
  · replace g1 : P ≤ i := (nI_leI (a := P) (b := i) (by omega) (by omega)).mp g1
    omega
  · replace g1 : ¬ P ≤ i := fun q => g1 ((nI_leI (a := P) (b := i) (by omega) (by omega)).mpr q)
    refine R_go 5 (pc' := 49) (L' := [some (.ref 64), some (.int (nI e)), some (.int s), some (.int (nI i)), w]) (st' := [.int (24 * nI e), .ref 70]) (h' := mk M T) (fun _ => rfl) ?_
    refine R_top (pk_mul 24 e) ?_
    refine R_go 2 (pc' := 51) (L' := [some (.ref 64), some (.int (nI e)), some (.int s), some (.int (nI i)), w]) (st' := [.int (nI (24 * e) + nI i), .ref 70]) (h' := mk M T) (fun _ => rfl) ?_
    refine R_top (nI_add (24 * e) i) ?_
    refine R_iald (c := 67) (n := 96) (j := (24 * e) + i) rfl rfl (by omega) (by decide) ?_
    refine R_top (y := y) (hy) ?_
    refine R_go 3 (pc' := 57) (L' := [some (.ref 64), some (.int (nI e)), some (.int s), some (.int (nI i)), some (.int y)]) (st' := [.int y, .ref 64]) (h' := mk M T) (fun _ => rfl) ?_
    refine R_call2 (i := .invokevirtual 92) (kd := 0) (y := M_X8_isPane) (as := [.ref 64, .int y]) (r := []) (L0 := [some (.ref 64), some (.int y)]) (v1 := some (.int 1)) (v2 := some (.int 0)) (h1' := mk M T) (h2' := mk M T) (pc' := 60) (st1 := [.int 1]) (st2 := [.int 0]) rfl rfl rfl rfl rfl rfl (m_isPane hP h8) (fun g2 => ?_) (fun g2 => ?_)
    · exact absurd g2 (hv)
    · refine R_ret 3 (pcr := 74) (v := some (.int 0)) (h' := mk M T) (fun _ => rfl) ?_
      exact k1
set_option maxRecDepth 100000 in
set_option maxHeartbeats 4000000 in
theorem io_dup {ro : xRO} {d : Nat} {M : xM} {T : Nat} {Q : Option Value → xH → Prop} {e : Nat} (he : e < 4) {P : Nat} (h8 : P ≤ 8) (hz : M 66 e = nI P) (hP : M 62 6 = nI P) {i : Nat} (hi : i < P) {s : Int32} {w : Option Value} {v : Nat} (hv : v < P) (hy : M 67 (24 * e + i) = nI v) (hb : bitP s v) (k1 : Q (some (.int 0)) (mk M T)) : Rn ro (d + 4) M_X8_isRound 31 [some (.ref 64), some (.int (nI e)), some (.int s), some (.int (nI i)), w] [] (mk M T) Q := by
  refine R_go 4 (pc' := 37) (L' := [some (.ref 64), some (.int (nI e)), some (.int s), some (.int (nI i)), w]) (st' := [.int (nI e), .ref 69, .int (nI i)]) (h' := mk M T) (fun _ => rfl) ?_
  refine R_iald (c := 66) (n := 4) (j := e) rfl rfl (by omega) (by decide) ?_
  refine R_top (y := nI P) (hz) ?_
  refine R_if 1 (c := (nI P) ≤ (nI i)) (t := 96) (f := 41) (L' := [some (.ref 64), some (.int (nI e)), some (.int s), some (.int (nI i)), w]) (st' := []) (h' := mk M T) (fun _ => rfl) (fun g1 => ?_) (fun g1 => ?_)
  · replace g1 : P ≤ i := (nI_leI (a := P) (b := i) (by omega) (by omega)).mp g1
    omega
  · replace g1 : ¬ P ≤ i := fun q => g1 ((nI_leI (a := P) (b := i) (by omega) (by omega)).mpr q)
    refine R_go 5 (pc' := 49) (L' := [some (.ref 64), some (.int (nI e)), some (.int s), some (.int (nI i)), w]) (st' := [.int (24 * nI e), .ref 70]) (h' := mk M T) (fun _ => rfl) ?_
    refine R_top (pk_mul 24 e) ?_
    refine R_go 2 (pc' := 51) (L' := [some (.ref 64), some (.int (nI e)), some (.int s), some (.int (nI i)), w]) (st' := [.int (nI (24 * e) + nI i), .ref 70]) (h' := mk M T) (fun _ => rfl) ?_
    refine R_top (nI_add (24 * e) i) ?_
    refine R_iald (c := 67) (n := 96) (j := (24 * e) + i) rfl rfl (by omega) (by decide) ?_
    refine R_top (y := nI v) (hy) ?_
    refine R_go 3 (pc' := 57) (L' := [some (.ref 64), some (.int (nI e)), some (.int s), some (.int (nI i)), some (.int (nI v))]) (st' := [.int (nI v), .ref 64]) (h' := mk M T) (fun _ => rfl) ?_
    refine R_call2 (i := .invokevirtual 92) (kd := 0) (y := M_X8_isPane) (as := [.ref 64, .int (nI v)]) (r := []) (L0 := [some (.ref 64), some (.int (nI v))]) (v1 := some (.int 1)) (v2 := some (.int 0)) (h1' := mk M T) (h2' := mk M T) (pc' := 60) (st1 := [.int 1]) (st2 := [.int 0]) rfl rfl rfl rfl rfl rfl (m_isPane hP h8) (fun g2 => ?_) (fun g2 => ?_)
    · refine R_ifn 8 (c := ((s >>> ((nI v) &&& 31)) &&& 1) = 1) (t := 75) (f := 73) (L' := [some (.ref 64), some (.int (nI e)), some (.int s), some (.int (nI i)), some (.int (nI v))]) (st' := []) (h' := mk M T) (fun _ => rfl) (fun g3 => ?_) (fun g3 => ?_)
      · exact absurd (hb) g3
      · refine R_ret 2 (pcr := 74) (v := some (.int 0)) (h' := mk M T) (fun _ => rfl) ?_
        exact k1
    · exact absurd (⟨nI_pos' (by omega), nI_lt hv (by omega)⟩) g2
set_option maxRecDepth 100000 in
set_option maxHeartbeats 4000000 in
theorem io_ok {ro : xRO} {d : Nat} {M : xM} {T : Nat} {Q : Option Value → xH → Prop} {e : Nat} (he : e < 4) {P : Nat} (h8 : P ≤ 8) (hz : M 66 e = nI P) (hP : M 62 6 = nI P) {i : Nat} (hi : i < P) {s : Int32} {w : Option Value} {v : Nat} (hv : v < P) (hy : M 67 (24 * e + i) = nI v) (hb : ¬ bitP s v) (k1 : Rn ro (d + 4) M_X8_isRound 31 [some (.ref 64), some (.int (nI e)), some (.int (s ||| (1 <<< ((nI v) &&& 31)))), some (.int (nI (i + 1))), some (.int (nI v))] [] (mk (up M 72 i (nI v)) T) Q) : Rn ro (d + 4) M_X8_isRound 31 [some (.ref 64), some (.int (nI e)), some (.int s), some (.int (nI i)), w] [] (mk M T) Q := by
  refine R_go 4 (pc' := 37) (L' := [some (.ref 64), some (.int (nI e)), some (.int s), some (.int (nI i)), w]) (st' := [.int (nI e), .ref 69, .int (nI i)]) (h' := mk M T) (fun _ => rfl) ?_
  refine R_iald (c := 66) (n := 4) (j := e) rfl rfl (by omega) (by decide) ?_
  refine R_top (y := nI P) (hz) ?_
  refine R_if 1 (c := (nI P) ≤ (nI i)) (t := 96) (f := 41) (L' := [some (.ref 64), some (.int (nI e)), some (.int s), some (.int (nI i)), w]) (st' := []) (h' := mk M T) (fun _ => rfl) (fun g1 => ?_) (fun g1 => ?_)
  · replace g1 : P ≤ i := (nI_leI (a := P) (b := i) (by omega) (by omega)).mp g1
    omega
  · replace g1 : ¬ P ≤ i := fun q => g1 ((nI_leI (a := P) (b := i) (by omega) (by omega)).mpr q)
    refine R_go 5 (pc' := 49) (L' := [some (.ref 64), some (.int (nI e)), some (.int s), some (.int (nI i)), w]) (st' := [.int (24 * nI e), .ref 70]) (h' := mk M T) (fun _ => rfl) ?_
    refine R_top (pk_mul 24 e) ?_
    refine R_go 2 (pc' := 51) (L' := [some (.ref 64), some (.int (nI e)), some (.int s), some (.int (nI i)), w]) (st' := [.int (nI (24 * e) + nI i), .ref 70]) (h' := mk M T) (fun _ => rfl) ?_
    refine R_top (nI_add (24 * e) i) ?_
    refine R_iald (c := 67) (n := 96) (j := (24 * e) + i) rfl rfl (by omega) (by decide) ?_
    refine R_top (y := nI v) (hy) ?_
    refine R_go 3 (pc' := 57) (L' := [some (.ref 64), some (.int (nI e)), some (.int s), some (.int (nI i)), some (.int (nI v))]) (st' := [.int (nI v), .ref 64]) (h' := mk M T) (fun _ => rfl) ?_
    refine R_call2 (i := .invokevirtual 92) (kd := 0) (y := M_X8_isPane) (as := [.ref 64, .int (nI v)]) (r := []) (L0 := [some (.ref 64), some (.int (nI v))]) (v1 := some (.int 1)) (v2 := some (.int 0)) (h1' := mk M T) (h2' := mk M T) (pc' := 60) (st1 := [.int 1]) (st2 := [.int 0]) rfl rfl rfl rfl rfl rfl (m_isPane hP h8) (fun g2 => ?_) (fun g2 => ?_)
    · refine R_ifn 8 (c := ((s >>> ((nI v) &&& 31)) &&& 1) = 1) (t := 75) (f := 73) (L' := [some (.ref 64), some (.int (nI e)), some (.int s), some (.int (nI i)), some (.int (nI v))]) (st' := []) (h' := mk M T) (fun _ => rfl) (fun g3 => ?_) (fun g3 => ?_)
      · refine R_go 10 (pc' := 89) (L' := [some (.ref 64), some (.int (nI e)), some (.int (s ||| (1 <<< ((nI v) &&& 31)))), some (.int (nI i)), some (.int (nI v))]) (st' := [.int (nI v), .int (nI i), .ref 75]) (h' := mk M T) (fun _ => rfl) ?_
        refine R_iast (c := 72) (n := 8) (j := i) rfl rfl (by omega) (by decide) ?_
        refine R_go 1 (pc' := 93) (L' := [some (.ref 64), some (.int (nI e)), some (.int (s ||| (1 <<< ((nI v) &&& 31)))), some (.int ((nI i) + 1)), some (.int (nI v))]) (st' := []) (h' := mk (up M 72 i (nI v)) T) (fun _ => rfl) ?_
        rw [nI_1]
        refine R_go 1 (pc' := 31) (L' := [some (.ref 64), some (.int (nI e)), some (.int (s ||| (1 <<< ((nI v) &&& 31)))), some (.int (nI (i + 1))), some (.int (nI v))]) (st' := []) (h' := mk (up M 72 i (nI v)) T) (fun _ => rfl) ?_
        exact k1
      · exact absurd g3 (hb)
    · exact absurd (⟨nI_pos' (by omega), nI_lt hv (by omega)⟩) g2
set_option maxRecDepth 100000 in
set_option maxHeartbeats 4000000 in
theorem io_end {ro : xRO} {d : Nat} {M : xM} {T : Nat} {Q : Option Value → xH → Prop} {e P : Nat} (he : e < 4) (h8 : P ≤ 8) (hz : M 66 e = nI P) {s : Int32} {w : Option Value} (k1 : Q (some (.int 1)) (mk M T)) : Rn ro (d + 4) M_X8_isRound 31 [some (.ref 64), some (.int (nI e)), some (.int s), some (.int (nI P)), w] [] (mk M T) Q := by
  refine R_go 4 (pc' := 37) (L' := [some (.ref 64), some (.int (nI e)), some (.int s), some (.int (nI P)), w]) (st' := [.int (nI e), .ref 69, .int (nI P)]) (h' := mk M T) (fun _ => rfl) ?_
  refine R_iald (c := 66) (n := 4) (j := e) rfl rfl (by omega) (by decide) ?_
  refine R_top (y := nI P) (hz) ?_
  refine R_if 1 (c := (nI P) ≤ (nI P)) (t := 96) (f := 41) (L' := [some (.ref 64), some (.int (nI e)), some (.int s), some (.int (nI P)), w]) (st' := []) (h' := mk M T) (fun _ => rfl) (fun g1 => ?_) (fun g1 => ?_)
  · replace g1 : P ≤ P := (nI_leI (a := P) (b := P) (by omega) (by omega)).mp g1
    refine R_ret 2 (pcr := 97) (v := some (.int 1)) (h' := mk M T) (fun _ => rfl) ?_
    exact k1
  · replace g1 : ¬ P ≤ P := fun q => g1 ((nI_leI (a := P) (b := P) (by omega) (by omega)).mpr q)
    omega
set_option maxRecDepth 100000 in
set_option maxHeartbeats 4000000 in
theorem lp_take_T {ro : xRO} {d : Nat} {T : Nat} {Mb : xM} {e : Nat} (he : e < 4) {P : Nat} (h8 : P ≤ 8) (hz : Mb (52 + 2 * e) 2 = nI P) {cs : Nat → Int32} (hq : ∀ i v, i < 24 → v < 100 → (Mb (53 + 2 * e) i = nI v ↔ cs i = nI v)) (hL : ∀ i, i < P → ¬ trF cs P i = true) : ∀ (k i : Nat) (w : Option Value) (M : xM), i + k = P → f42 Mb M → (∀ j, j < i → M 42 j = nI (ordF cs j)) → Rn ro (d + 4) M_X3_takeOrder 31 [some (.ref 42), some (.ref (52 + 2 * e + 3)), some (.int (nI P)), some (.int (mkF (ordF cs) i)), some (.int (nI i)), w] [] (mk M T) (fun rr h => ∃ M', (f42 Mb M' ∧ ∀ j, j < P → M' 42 j = nI (ordF cs j)) ∧ rr = some (.int 1) ∧ h = mk M' T) := by
  intro k
  induction k with
  | zero =>
    intro i w M hi hx hj
    obtain rfl : i = P := by omega
    exact to_end (e := e) h8 ⟨M, ⟨hx, hj⟩, rfl, rfl⟩
  | succ k ih =>
    intro i w M hi hx hj
    obtain ⟨v, v1, v2, v3, v4⟩ := trF_f h8 (hL i (by omega))
    have w2 := ih (i + 1) (some (.int (nI v))) (up M 42 i (nI v)) (by omega) (fun c hc => (up_ne hc).trans (hx c hc)) (fun j hj2 => by
      rw [up_rd]
      by_cases q : j = i
      · rw [if_pos ⟨rfl, q⟩, q, v3]
      · rw [if_neg (fun z => q z.2)]; exact hj j (by omega))
    have e1 : mkF (ordF cs) (i + 1) = (mkF (ordF cs) i) ||| (1 <<< ((nI v) &&& 31)) := by
      show (mkF (ordF cs) i) ||| (1 <<< ((nI (ordF cs i)) &&& 31)) = _
      rw [v3]
    rw [e1] at w2
    exact to_ok he h8 ((congrFun (hx _ (by omega)) 2).trans hz) (by omega) v1 ((congrFun (hx _ (by omega)) i).trans ((hq i v (by omega) (by omega)).mpr v2)) v4 w2
theorem lp_take_F {ro : xRO} {d : Nat} {T : Nat} {Mb : xM} {e : Nat} (he : e < 4) {P : Nat} (h8 : P ≤ 8) (hz : Mb (52 + 2 * e) 2 = nI P) {cs : Nat → Int32} (hq : ∀ i v, i < 24 → v < 100 → (Mb (53 + 2 * e) i = nI v ↔ cs i = nI v)) : ∀ (k i : Nat) (w : Option Value) (M : xM), i + k = P → lst (trF cs P) i k < P → f42 Mb M → Rn ro (d + 4) M_X3_takeOrder 31 [some (.ref 42), some (.ref (52 + 2 * e + 3)), some (.int (nI P)), some (.int (mkF (ordF cs) i)), some (.int (nI i)), w] [] (mk M T) (fun rr h => ∃ M', f42 Mb M' ∧ rr = some (.int 0) ∧ h = mk M' T) := by
  intro k
  induction k with
  | zero =>
    intro i w M hi hl hx
    exact absurd hl (by show ¬ i < P; omega)
  | succ k ih =>
    intro i w M hi hl hx
    by_cases ht : trF cs P i = true
    · rcases trF_t h8 ht with q | ⟨v, v1, v2, v3⟩
      · exact to_bad he h8 ((congrFun (hx _ (by omega)) 2).trans hz) (by omega) rfl (fun z => q (by
          rcases nI_cases (Mb (53 + 2 * e) i) P (by omega) with ⟨v, v1, v2⟩ | z2
          · rw [(hq i v (by omega) (by omega)).mp v2]; exact ⟨nI_pos' (by omega), nI_lt v1 (by omega)⟩
          · rw [hx _ (by omega)] at z; exact absurd z z2)) ⟨M, hx, rfl, rfl⟩
      · exact to_dup he h8 ((congrFun (hx _ (by omega)) 2).trans hz) (by omega) v1 ((congrFun (hx _ (by omega)) i).trans ((hq i v (by omega) (by omega)).mpr v2)) v3 ⟨M, hx, rfl, rfl⟩
    · obtain ⟨v, v1, v2, v3, v4⟩ := trF_f h8 ht
      rw [lst_f ht] at hl
      have w2 := ih (i + 1) (some (.int (nI v))) (up M 42 i (nI v)) (by omega) hl (fun c hc => (up_ne hc).trans (hx c hc))
      have e1 : mkF (ordF cs) (i + 1) = (mkF (ordF cs) i) ||| (1 <<< ((nI v) &&& 31)) := by
        show (mkF (ordF cs) i) ||| (1 <<< ((nI (ordF cs i)) &&& 31)) = _
        rw [v3]
      rw [e1] at w2
      exact to_ok he h8 ((congrFun (hx _ (by omega)) 2).trans hz) (by omega) v1 ((congrFun (hx _ (by omega)) i).trans ((hq i v (by omega) (by omega)).mpr v2)) v4 w2
set_option maxRecDepth 100000 in
set_option maxHeartbeats 4000000 in
theorem lp_isr_T {ro : xRO} {d : Nat} {T : Nat} {Mb : xM} {e : Nat} (he : e < 4) {P : Nat} (h8 : P ≤ 8) (hz : Mb 66 e = nI P) (hP : Mb 62 6 = nI P) {cs : Nat → Int32} (hq : ∀ i, i < 24 → Mb 67 (24 * e + i) = cs i) (hL : ∀ i, i < P → ¬ trF cs P i = true) : ∀ (k i : Nat) (w : Option Value) (M : xM), i + k = P → f72 Mb M → (∀ j, j < i → M 72 j = nI (ordF cs j)) → Rn ro (d + 4) M_X8_isRound 31 [some (.ref 64), some (.int (nI e)), some (.int (mkF (ordF cs) i)), some (.int (nI i)), w] [] (mk M T) (fun rr h => ∃ M', (f72 Mb M' ∧ ∀ j, j < P → M' 72 j = nI (ordF cs j)) ∧ rr = some (.int 1) ∧ h = mk M' T) := by
  intro k
  induction k with
  | zero =>
    intro i w M hi hx hj
    obtain rfl : i = P := by omega
    exact io_end he h8 ((congrFun (hx _ (by omega)) e).trans hz) ⟨M, ⟨hx, hj⟩, rfl, rfl⟩
  | succ k ih =>
    intro i w M hi hx hj
    obtain ⟨v, v1, v2, v3, v4⟩ := trF_f h8 (hL i (by omega))
    have w2 := ih (i + 1) (some (.int (nI v))) (up M 72 i (nI v)) (by omega) (fun c hc => (up_ne hc).trans (hx c hc)) (fun j hj2 => by
      rw [up_rd]
      by_cases q : j = i
      · rw [if_pos ⟨rfl, q⟩, q, v3]
      · rw [if_neg (fun z => q z.2)]; exact hj j (by omega))
    have e1 : mkF (ordF cs) (i + 1) = (mkF (ordF cs) i) ||| (1 <<< ((nI v) &&& 31)) := by
      show (mkF (ordF cs) i) ||| (1 <<< ((nI (ordF cs i)) &&& 31)) = _
      rw [v3]
    rw [e1] at w2
    exact io_ok he h8 ((congrFun (hx _ (by omega)) e).trans hz) ((congrFun (hx _ (by omega)) 6).trans hP) (by omega) v1 ((congrFun (hx _ (by omega)) (24 * e + i)).trans ((hq i (by omega)).trans v2)) v4 w2
theorem lp_isr_F {ro : xRO} {d : Nat} {T : Nat} {Mb : xM} {e : Nat} (he : e < 4) {P : Nat} (h8 : P ≤ 8) (hz : Mb 66 e = nI P) (hP : Mb 62 6 = nI P) {cs : Nat → Int32} (hq : ∀ i, i < 24 → Mb 67 (24 * e + i) = cs i) : ∀ (k i : Nat) (w : Option Value) (M : xM), i + k = P → lst (trF cs P) i k < P → f72 Mb M → Rn ro (d + 4) M_X8_isRound 31 [some (.ref 64), some (.int (nI e)), some (.int (mkF (ordF cs) i)), some (.int (nI i)), w] [] (mk M T) (fun rr h => ∃ M', f72 Mb M' ∧ rr = some (.int 0) ∧ h = mk M' T) := by
  intro k
  induction k with
  | zero =>
    intro i w M hi hl hx
    exact absurd hl (by show ¬ i < P; omega)
  | succ k ih =>
    intro i w M hi hl hx
    by_cases ht : trF cs P i = true
    · rcases trF_t h8 ht with q | ⟨v, v1, v2, v3⟩
      · exact io_bad he h8 ((congrFun (hx _ (by omega)) e).trans hz) ((congrFun (hx _ (by omega)) 6).trans hP) (by omega) rfl (fun z => q (by rw [hx _ (by omega), hq i (by omega)] at z; exact z)) ⟨M, hx, rfl, rfl⟩
      · exact io_dup he h8 ((congrFun (hx _ (by omega)) e).trans hz) ((congrFun (hx _ (by omega)) 6).trans hP) (by omega) v1 ((congrFun (hx _ (by omega)) (24 * e + i)).trans ((hq i (by omega)).trans v2)) v3 ⟨M, hx, rfl, rfl⟩
    · obtain ⟨v, v1, v2, v3, v4⟩ := trF_f h8 ht
      rw [lst_f ht] at hl
      have w2 := ih (i + 1) (some (.int (nI v))) (up M 72 i (nI v)) (by omega) hl (fun c hc => (up_ne hc).trans (hx c hc))
      have e1 : mkF (ordF cs) (i + 1) = (mkF (ordF cs) i) ||| (1 <<< ((nI v) &&& 31)) := by
        show (mkF (ordF cs) i) ||| (1 <<< ((nI (ordF cs i)) &&& 31)) = _
        rw [v3]
      rw [e1] at w2
      exact io_ok he h8 ((congrFun (hx _ (by omega)) e).trans hz) ((congrFun (hx _ (by omega)) 6).trans hP) (by omega) v1 ((congrFun (hx _ (by omega)) (24 * e + i)).trans ((hq i (by omega)).trans v2)) v4 w2
