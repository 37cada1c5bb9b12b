/-! OPERATION breath: the searches -/
theorem sh_P {P : Nat} (h8 : P ≤ 8) : (1 : Int32) <<< ((nI P) &&& 31) = nI (2 ^ P) := (by decide : ∀ P : Fin 9, (1 : Int32) <<< ((nI P.val) &&& 31) = nI (2 ^ P.val)) ⟨P, by omega⟩
theorem pw_P {P : Nat} (h8 : P ≤ 8) : 2 ^ P ≤ 256 := (by decide : ∀ P : Fin 9, 2 ^ P.val ≤ 256) ⟨P, by omega⟩
def isB (G : Nat → Nat) (v k : Nat) : Option Nat → Prop
  | none => ∀ s, s < k → ¬ v ≤ G s
  | some s0 => s0 < k ∧ v ≤ G s0 ∧ ∀ s, s < k → v ≤ G s → (bc s0 < bc s ∨ (bc s0 = bc s ∧ s0 ≤ s))
theorem isB_u {G : Nat → Nat} {v k : Nat} {b b' : Option Nat} (h : isB G v k b) (h' : isB G v k b') : b = b' := by
  cases b with
  | none =>
    cases b' with
    | none => rfl
    | some s => exact absurd h'.2.1 (h s h'.1)
  | some s =>
    cases b' with
    | none => exact absurd h.2.1 (h' s h.1)
    | some s' =>
      have a := h.2.2 s' h'.1 h'.2.1
      have c := h'.2.2 s h.1 h.2.1
      have : s = s' := by omega
      rw [this]
def gnS (M0 : xM) (P heir : Nat) : Nat → Nat := fun s => gnT M0 (wkV M0 (nI s) idN P) heir P
def BX (M0 Mb M : xM) : Prop := FC M0 M ∧ Memo M0 M ∧ (∀ j, j < 8 → M 42 j = nI j) ∧ ∀ c, c ≠ 16 → c ≠ 19 → c ≠ 40 → c ≠ 41 → c ≠ 44 → M c = Mb c
def BM (M0 Mb M : xM) : Prop := FM M0 M ∧ (∀ j, j < 8 → M 72 j = nI j) ∧ (∀ c, c ≠ 61 → c ≠ 70 → c ≠ 71 → c ≠ 73 → M c = Mb c) ∧ ∀ j, j ≠ 7 → M 61 j = Mb 61 j
set_option maxRecDepth 100000 in
set_option maxHeartbeats 4000000 in
theorem bf_skip {ro : xRO} {d : Nat} {M : xM} {T : Nat} {Q : Option Value → xH → Prop} {M0 Mb : xM} (h0 : Rel M0) {P : Nat} (hP0 : M0 62 6 = nI P) (h8 : P ≤ 8) {heir v NN : Nat} (h5 : heir ≤ 5) (v9 : v ≤ 99999) (hNN : NN = 2 ^ P) (hx : BX M0 Mb M) {many s : Nat} (m9 : many ≤ 8) (hs : s < NN) (hb : ¬ bc s = many) (k1 : Rn ro (d + 8) M_X3_breathFor 23 [some (.ref 42), some (.ref 4), some (.int (nI heir)), some (.int (nI v)), some (.int (nI many)), some (.int (nI (s + 1)))] [] (mk M T) Q) : Rn ro (d + 8) M_X3_breathFor 23 [some (.ref 42), some (.ref 4), some (.int (nI heir)), some (.int (nI v)), some (.int (nI many)), some (.int (nI s))] [] (mk M T) Q := by
  have n256 : NN ≤ 256 := by rw [hNN]; exact pw_P h8
  have bb := (bc_all ⟨s, by omega⟩).2
  have bb : bc s ≤ 8 := bb
  refine R_go 4 (pc' := 30) (L' := [some (.ref 42), some (.ref 4), some (.int (nI heir)), some (.int (nI v)), some (.int (nI many)), some (.int (nI s))]) (st' := [.int (M 1 6), .int 1, .int (nI s)]) (h' := mk M T) (fun _ => rfl) ?_
  refine R_top (y := nI P) (fc_P h0 hx.1 hP0) ?_
  refine R_go 1 (pc' := 31) (L' := [some (.ref 42), some (.ref 4), some (.int (nI heir)), some (.int (nI v)), some (.int (nI many)), some (.int (nI s))]) (st' := [.int (1 <<< ((nI P) &&& 31)), .int (nI s)]) (h' := mk M T) (fun _ => rfl) ?_
  refine R_top ((sh_P h8).trans (congrArg nI hNN.symm)) ?_
  refine R_if 1 (c := (nI NN) ≤ (nI s)) (t := 65) (f := 34) (L' := [some (.ref 42), some (.ref 4), some (.int (nI heir)), some (.int (nI v)), some (.int (nI many)), some (.int (nI s))]) (st' := []) (h' := mk M T) (fun _ => rfl) (fun g1 => ?_) (fun g1 => ?_)
  · replace g1 : NN ≤ s := (nI_leI (a := NN) (b := s) (by omega) (by omega)).mp g1
    omega
  · replace g1 : ¬ NN ≤ s := fun q => g1 ((nI_leI (a := NN) (b := s) (by omega) (by omega)).mpr q)
    refine R_go 1 (pc' := 36) (L' := [some (.ref 42), some (.ref 4), some (.int (nI heir)), some (.int (nI v)), some (.int (nI many)), some (.int (nI s))]) (st' := [.int (nI s)]) (h' := mk M T) (fun _ => rfl) ?_
    refine R_callD (i := .invokestatic 151) (kd := 1) (y := M_J6_bitCount_0f7a4) (as := [.int (nI s)]) (r := []) (L0 := [some (.int (nI s))]) (v := some (.int (nI (bc s)))) (h' := mk M T) (pc' := 39) (st' := [.int (nI (bc s))]) rfl rfl rfl rfl rfl rfl (c_bitCount (s := s) (by omega)) ?_
    refine R_ifn 2 (c := (nI (bc s)) = (nI many)) (t := 59) (f := 44) (L' := [some (.ref 42), some (.ref 4), some (.int (nI heir)), some (.int (nI v)), some (.int (nI many)), some (.int (nI s))]) (st' := []) (h' := mk M T) (fun _ => rfl) (fun g2 => ?_) (fun g2 => ?_)
    · replace g2 : ¬ (bc s) = many := fun q => g2 ((nI_eq (a := bc s) (b := many) (by omega) (by omega)).mpr q)
      refine R_go 1 (pc' := 62) (L' := [some (.ref 42), some (.ref 4), some (.int (nI heir)), some (.int (nI v)), some (.int (nI many)), some (.int ((nI s) + 1))]) (st' := []) (h' := mk M T) (fun _ => rfl) ?_
      rw [nI_1]
      refine R_go 1 (pc' := 23) (L' := [some (.ref 42), some (.ref 4), some (.int (nI heir)), some (.int (nI v)), some (.int (nI many)), some (.int (nI (s + 1)))]) (st' := []) (h' := mk M T) (fun _ => rfl) ?_
      exact k1
    · replace g2 : (bc s) = many := (nI_eq (a := bc s) (b := many) (by omega) (by omega)).mp g2
      omega
set_option maxRecDepth 100000 in
set_option maxHeartbeats 4000000 in
theorem bf_try {ro : xRO} {d : Nat} {M : xM} {T : Nat} {Q : Option Value → xH → Prop} {M0 Mb : xM} (h0 : Rel M0) {P : Nat} (hP0 : M0 62 6 = nI P) (h8 : P ≤ 8) {heir v NN : Nat} (h5 : heir ≤ 5) (v9 : v ≤ 99999) (hNN : NN = 2 ^ P) (hx : BX M0 Mb M) {many s : Nat} (m9 : many ≤ 8) (hs : s < NN) (hb : bc s = many) (gs9 : gnS M0 P heir s ≤ 99999) (k1 : ∀ M', BX M0 Mb M' → ¬ v ≤ gnS M0 P heir s → Rn ro (d + 8) M_X3_breathFor 23 [some (.ref 42), some (.ref 4), some (.int (nI heir)), some (.int (nI v)), some (.int (nI many)), some (.int (nI (s + 1)))] [] (mk M' T) Q) (k2 : ∀ M', BX M0 Mb M' → v ≤ gnS M0 P heir s → Q (some (.int (nI s))) (mk M' T)) : Rn ro (d + 8) M_X3_breathFor 23 [some (.ref 42), some (.ref 4), some (.int (nI heir)), some (.int (nI v)), some (.int (nI many)), some (.int (nI s))] [] (mk M T) Q := by
  have n256 : NN ≤ 256 := by rw [hNN]; exact pw_P h8
  have bb := (bc_all ⟨s, by omega⟩).2
  have bb : bc s ≤ 8 := bb
  refine R_go 4 (pc' := 30) (L' := [some (.ref 42), some (.ref 4), some (.int (nI heir)), some (.int (nI v)), some (.int (nI many)), some (.int (nI s))]) (st' := [.int (M 1 6), .int 1, .int (nI s)]) (h' := mk M T) (fun _ => rfl) ?_
  refine R_top (y := nI P) (fc_P h0 hx.1 hP0) ?_
  refine R_go 1 (pc' := 31) (L' := [some (.ref 42), some (.ref 4), some (.int (nI heir)), some (.int (nI v)), some (.int (nI many)), some (.int (nI s))]) (st' := [.int (1 <<< ((nI P) &&& 31)), .int (nI s)]) (h' := mk M T) (fun _ => rfl) ?_
  refine R_top ((sh_P h8).trans (congrArg nI hNN.symm)) ?_
  refine R_if 1 (c := (nI NN) ≤ (nI s)) (t := 65) (f := 34) (L' := [some (.ref 42), some (.ref 4), some (.int (nI heir)), some (.int (nI v)), some (.int (nI many)), some (.int (nI s))]) (st' := []) (h' := mk M T) (fun _ => rfl) (fun g1 => ?_) (fun g1 => ?_)
  · replace g1 : NN ≤ s := (nI_leI (a := NN) (b := s) (by omega) (by omega)).mp g1
    omega
  · replace g1 : ¬ NN ≤ s := fun q => g1 ((nI_leI (a := NN) (b := s) (by omega) (by omega)).mpr q)
    refine R_go 1 (pc' := 36) (L' := [some (.ref 42), some (.ref 4), some (.int (nI heir)), some (.int (nI v)), some (.int (nI many)), some (.int (nI s))]) (st' := [.int (nI s)]) (h' := mk M T) (fun _ => rfl) ?_
    refine R_callD (i := .invokestatic 151) (kd := 1) (y := M_J6_bitCount_0f7a4) (as := [.int (nI s)]) (r := []) (L0 := [some (.int (nI s))]) (v := some (.int (nI (bc s)))) (h' := mk M T) (pc' := 39) (st' := [.int (nI (bc s))]) rfl rfl rfl rfl rfl rfl (c_bitCount (s := s) (by omega)) ?_
    refine R_ifn 2 (c := (nI (bc s)) = (nI many)) (t := 59) (f := 44) (L' := [some (.ref 42), some (.ref 4), some (.int (nI heir)), some (.int (nI v)), some (.int (nI many)), some (.int (nI s))]) (st' := []) (h' := mk M T) (fun _ => rfl) (fun g2 => ?_) (fun g2 => ?_)
    · replace g2 : ¬ (bc s) = many := fun q => g2 ((nI_eq (a := bc s) (b := many) (by omega) (by omega)).mpr q)
      omega
    · replace g2 : (bc s) = many := (nI_eq (a := bc s) (b := many) (by omega) (by omega)).mp g2
      refine R_go 4 (pc' := 49) (L' := [some (.ref 42), some (.ref 4), some (.int (nI heir)), some (.int (nI v)), some (.int (nI many)), some (.int (nI s))]) (st' := [.int (nI s), .int (nI heir), .ref 4, .ref 42]) (h' := mk M T) (fun _ => rfl) ?_
      refine R_callE (i := .invokevirtual 156) (kd := 0) (y := M_X3_gainOf) (as := [.ref 42, .ref 4, .int (nI heir), .int (nI s)]) (r := []) (L0 := [some (.ref 42), some (.ref 4), some (.int (nI heir)), some (.int (nI s)), none, none, none]) (v := fun M' => some (.int (nI (gnS M0 P heir s)))) (h' := fun M' => mk M' T) (pc' := 52) (st' := fun M' => [.int (nI (gnS M0 P heir s))]) rfl rfl rfl rfl rfl rfl (c_gainOf (ord := idN) (B := nI s) (heir := heir) h0 hx.1 hP0 h8 (fun i hi => hi) (fun i hi => hx.2.2.1 i (by omega)) hx.2.1 (fun j hj => ⟨j, hj, rfl⟩) h5) (fun M' g3 => ?_)
      have xw := g3
      refine R_if 2 (c := (nI (gnS M0 P heir s)) < (nI v)) (t := 59) (f := 56) (L' := [some (.ref 42), some (.ref 4), some (.int (nI heir)), some (.int (nI v)), some (.int (nI many)), some (.int (nI s))]) (st' := []) (h' := mk M' T) (fun _ => rfl) (fun g4 => ?_) (fun g4 => ?_)
      · replace g4 : (gnS M0 P heir s) < v := (nI_ltI (a := gnS M0 P heir s) (b := v) (by omega) (by omega)).mp g4
        refine R_go 1 (pc' := 62) (L' := [some (.ref 42), some (.ref 4), some (.int (nI heir)), some (.int (nI v)), some (.int (nI many)), some (.int ((nI s) + 1))]) (st' := []) (h' := mk M' T) (fun _ => rfl) ?_
        rw [nI_1]
        refine R_go 1 (pc' := 23) (L' := [some (.ref 42), some (.ref 4), some (.int (nI heir)), some (.int (nI v)), some (.int (nI many)), some (.int (nI (s + 1)))]) (st' := []) (h' := mk M' T) (fun _ => rfl) ?_
        exact k1 M' ⟨xw.1, xw.2.1, fun j hj => (congrFun (xw.2.2 42 (by omega) (by omega) (by omega) (by omega) (by omega)) j).trans (hx.2.2.1 j hj), fun c a1 a2 a3 a4 a5 => (xw.2.2 c a1 a2 a3 a4 a5).trans (hx.2.2.2 c a1 a2 a3 a4 a5)⟩ (by omega)
      · replace g4 : ¬ (gnS M0 P heir s) < v := fun q => g4 ((nI_ltI (a := gnS M0 P heir s) (b := v) (by omega) (by omega)).mpr q)
        refine R_ret 2 (pcr := 58) (v := some (.int (nI s))) (h' := mk M' T) (fun _ => rfl) ?_
        exact k2 M' ⟨xw.1, xw.2.1, fun j hj => (congrFun (xw.2.2 42 (by omega) (by omega) (by omega) (by omega) (by omega)) j).trans (hx.2.2.1 j hj), fun c a1 a2 a3 a4 a5 => (xw.2.2 c a1 a2 a3 a4 a5).trans (hx.2.2.2 c a1 a2 a3 a4 a5)⟩ (by omega)
set_option maxRecDepth 100000 in
set_option maxHeartbeats 4000000 in
theorem bf_iend {ro : xRO} {d : Nat} {M : xM} {T : Nat} {Q : Option Value → xH → Prop} {M0 Mb : xM} (h0 : Rel M0) {P : Nat} (hP0 : M0 62 6 = nI P) (h8 : P ≤ 8) {heir v NN : Nat} (h5 : heir ≤ 5) (v9 : v ≤ 99999) (hNN : NN = 2 ^ P) (hx : BX M0 Mb M) {many : Nat} (m9 : many ≤ 8) (k1 : Rn ro (d + 8) M_X3_breathFor 11 [some (.ref 42), some (.ref 4), some (.int (nI heir)), some (.int (nI v)), some (.int (nI (many + 1))), some (.int (nI NN))] [] (mk M T) Q) : Rn ro (d + 8) M_X3_breathFor 23 [some (.ref 42), some (.ref 4), some (.int (nI heir)), some (.int (nI v)), some (.int (nI many)), some (.int (nI NN))] [] (mk M T) Q := by
  have n256 : NN ≤ 256 := by rw [hNN]; exact pw_P h8
  refine R_go 4 (pc' := 30) (L' := [some (.ref 42), some (.ref 4), some (.int (nI heir)), some (.int (nI v)), some (.int (nI many)), some (.int (nI NN))]) (st' := [.int (M 1 6), .int 1, .int (nI NN)]) (h' := mk M T) (fun _ => rfl) ?_
  refine R_top (y := nI P) (fc_P h0 hx.1 hP0) ?_
  refine R_go 1 (pc' := 31) (L' := [some (.ref 42), some (.ref 4), some (.int (nI heir)), some (.int (nI v)), some (.int (nI many)), some (.int (nI NN))]) (st' := [.int (1 <<< ((nI P) &&& 31)), .int (nI NN)]) (h' := mk M T) (fun _ => rfl) ?_
  refine R_top ((sh_P h8).trans (congrArg nI hNN.symm)) ?_
  refine R_if 1 (c := (nI NN) ≤ (nI NN)) (t := 65) (f := 34) (L' := [some (.ref 42), some (.ref 4), some (.int (nI heir)), some (.int (nI v)), some (.int (nI many)), some (.int (nI NN))]) (st' := []) (h' := mk M T) (fun _ => rfl) (fun g1 => ?_) (fun g1 => ?_)
  · replace g1 : NN ≤ NN := (nI_leI (a := NN) (b := NN) (by omega) (by omega)).mp g1
    refine R_go 1 (pc' := 68) (L' := [some (.ref 42), some (.ref 4), some (.int (nI heir)), some (.int (nI v)), some (.int ((nI many) + 1)), some (.int (nI NN))]) (st' := []) (h' := mk M T) (fun _ => rfl) ?_
    rw [nI_1]
    refine R_go 1 (pc' := 11) (L' := [some (.ref 42), some (.ref 4), some (.int (nI heir)), some (.int (nI v)), some (.int (nI (many + 1))), some (.int (nI NN))]) (st' := []) (h' := mk M T) (fun _ => rfl) ?_
    exact k1
  · replace g1 : ¬ NN ≤ NN := fun q => g1 ((nI_leI (a := NN) (b := NN) (by omega) (by omega)).mpr q)
    omega
set_option maxRecDepth 100000 in
set_option maxHeartbeats 4000000 in
theorem bf_go {ro : xRO} {d : Nat} {M : xM} {T : Nat} {Q : Option Value → xH → Prop} {M0 Mb : xM} (h0 : Rel M0) {P : Nat} (hP0 : M0 62 6 = nI P) (h8 : P ≤ 8) {heir v NN : Nat} (h5 : heir ≤ 5) (v9 : v ≤ 99999) (hNN : NN = 2 ^ P) (hx : BX M0 Mb M) {many : Nat} {w : Option Value} (m9 : many ≤ P) (k1 : Rn ro (d + 8) M_X3_breathFor 23 [some (.ref 42), some (.ref 4), some (.int (nI heir)), some (.int (nI v)), some (.int (nI many)), some (.int 0)] [] (mk M T) Q) : Rn ro (d + 8) M_X3_breathFor 11 [some (.ref 42), some (.ref 4), some (.int (nI heir)), some (.int (nI v)), some (.int (nI many)), w] [] (mk M T) Q := by
  have n256 : NN ≤ 256 := by rw [hNN]; exact pw_P h8
  refine R_go 3 (pc' := 17) (L' := [some (.ref 42), some (.ref 4), some (.int (nI heir)), some (.int (nI v)), some (.int (nI many)), w]) (st' := [.int (M 1 6), .int (nI many)]) (h' := mk M T) (fun _ => rfl) ?_
  refine R_top (y := nI P) (fc_P h0 hx.1 hP0) ?_
  refine R_if 1 (c := (nI P) < (nI many)) (t := 71) (f := 20) (L' := [some (.ref 42), some (.ref 4), some (.int (nI heir)), some (.int (nI v)), some (.int (nI many)), w]) (st' := []) (h' := mk M T) (fun _ => rfl) (fun g1 => ?_) (fun g1 => ?_)
  · replace g1 : P < many := (nI_ltI (a := P) (b := many) (by omega) (by omega)).mp g1
    omega
  · replace g1 : ¬ P < many := fun q => g1 ((nI_ltI (a := P) (b := many) (by omega) (by omega)).mpr q)
    refine R_go 2 (pc' := 23) (L' := [some (.ref 42), some (.ref 4), some (.int (nI heir)), some (.int (nI v)), some (.int (nI many)), some (.int 0)]) (st' := []) (h' := mk M T) (fun _ => rfl) ?_
    exact k1
set_option maxRecDepth 100000 in
set_option maxHeartbeats 4000000 in
theorem bf_end {ro : xRO} {d : Nat} {M : xM} {T : Nat} {Q : Option Value → xH → Prop} {M0 Mb : xM} (h0 : Rel M0) {P : Nat} (hP0 : M0 62 6 = nI P) (h8 : P ≤ 8) {heir v NN : Nat} (h5 : heir ≤ 5) (v9 : v ≤ 99999) (hNN : NN = 2 ^ P) (hx : BX M0 Mb M) {many : Nat} {w : Option Value} (m9 : P < many) (m10 : many ≤ 9) (k1 : Q (some (.int (-1))) (mk M T)) : Rn ro (d + 8) M_X3_breathFor 11 [some (.ref 42), some (.ref 4), some (.int (nI heir)), some (.int (nI v)), some (.int (nI many)), w] [] (mk M T) Q := by
  have n256 : NN ≤ 256 := by rw [hNN]; exact pw_P h8
  refine R_go 3 (pc' := 17) (L' := [some (.ref 42), some (.ref 4), some (.int (nI heir)), some (.int (nI v)), some (.int (nI many)), w]) (st' := [.int (M 1 6), .int (nI many)]) (h' := mk M T) (fun _ => rfl) ?_
  refine R_top (y := nI P) (fc_P h0 hx.1 hP0) ?_
  refine R_if 1 (c := (nI P) < (nI many)) (t := 71) (f := 20) (L' := [some (.ref 42), some (.ref 4), some (.int (nI heir)), some (.int (nI v)), some (.int (nI many)), w]) (st' := []) (h' := mk M T) (fun _ => rfl) (fun g1 => ?_) (fun g1 => ?_)
  · replace g1 : P < many := (nI_ltI (a := P) (b := many) (by omega) (by omega)).mp g1
    refine R_ret 2 (pcr := 72) (v := some (.int (-1))) (h' := mk M T) (fun _ => rfl) ?_
    exact k1
  · replace g1 : ¬ P < many := fun q => g1 ((nI_ltI (a := P) (b := many) (by omega) (by omega)).mpr q)
    omega
set_option maxRecDepth 100000 in
theorem bc_P : ∀ s : Fin 256, ∀ P : Fin 9, s.val < 2 ^ P.val → bc s.val ≤ P.val := by decide
theorem gnS_le {M0 : xM} {P heir s : Nat} (h8 : P ≤ 8) : gnS M0 P heir s ≤ 99999 := by
  have key : ∀ i, i ≤ P → gnT M0 (wkV M0 (nI s) idN P) heir i ≤ 9999 * i := by
    intro i
    induction i with
    | zero => intro _; exact Nat.le_refl 0
    | succ i ih =>
      intro hi
      have a := ih (by omega)
      have b := (wkV_p (M0 := M0) (B := nI s) (ord := idN) (P := P) (j := i) ⟨i, by omega, rfl⟩).1
      show gnT M0 (wkV M0 (nI s) idN P) heir i + (if heN M0 i = heir then wkV M0 (nI s) idN P i else 0) ≤ _
      split <;> omega
  have := key P (Nat.le_refl P)
  unfold gnS
  omega
section BFI
variable {ro : xRO} {d : Nat} {T : Nat} {Q : Option Value → xH → Prop} {M0 Mb : xM} {P heir v NN : Nat}
theorem lp_bfi (h0 : Rel M0) (hP0 : M0 62 6 = nI P) (h8 : P ≤ 8) (h5 : heir ≤ 5) (v9 : v ≤ 99999) (hNN : NN = 2 ^ P) {many : Nat} (m9 : many ≤ 8) : ∀ (k s : Nat) (M : xM), s + k = NN → BX M0 Mb M → (∀ t, t < s → bc t = many → ¬ v ≤ gnS M0 P heir t) → (∀ M', BX M0 Mb M' → (∀ t, t < NN → bc t = many → ¬ v ≤ gnS M0 P heir t) → Rn ro (d + 8) M_X3_breathFor 11 [some (.ref 42), some (.ref 4), some (.int (nI heir)), some (.int (nI v)), some (.int (nI (many + 1))), some (.int (nI NN))] [] (mk M' T) Q) → (∀ M' s0, BX M0 Mb M' → s0 < NN → bc s0 = many → v ≤ gnS M0 P heir s0 → (∀ t, t < s0 → bc t = many → ¬ v ≤ gnS M0 P heir t) → Q (some (.int (nI s0))) (mk M' T)) → Rn ro (d + 8) M_X3_breathFor 23 [some (.ref 42), some (.ref 4), some (.int (nI heir)), some (.int (nI v)), some (.int (nI many)), some (.int (nI s))] [] (mk M T) Q := by
  intro k
  induction k with
  | zero =>
    intro s M hs hx ht k1 k2
    obtain rfl : s = NN := by omega
    exact bf_iend h0 hP0 h8 h5 v9 hNN hx m9 (k1 M hx ht)
  | succ k ih =>
    intro s M hs hx ht k1 k2
    by_cases hb : bc s = many
    · refine bf_try h0 hP0 h8 h5 v9 hNN hx m9 (by omega) hb (gnS_le h8) (fun M' hx' hn => ih (s + 1) M' (by omega) hx' (fun t h1 h2 => ?_) k1 k2) (fun M' hx' hg => k2 M' s hx' (by omega) hb hg ht)
      by_cases q : t = s
      · rw [q]; exact hn
      · exact ht t (by omega) h2
    · exact bf_skip h0 hP0 h8 h5 v9 hNN hx m9 (by omega) hb (ih (s + 1) M (by omega) hx (fun t h1 h2 => by
        by_cases q : t = s
        · rw [q] at h2; exact absurd h2 hb
        · exact ht t (by omega) h2) k1 k2)
theorem lp_bfo (h0 : Rel M0) (hP0 : M0 62 6 = nI P) (h8 : P ≤ 8) (h5 : heir ≤ 5) (v9 : v ≤ 99999) (hNN : NN = 2 ^ P) (kk : ∀ M' b, BX M0 Mb M' → isB (gnS M0 P heir) v NN b → Q (some (.int (match b with | none => -1 | some s => nI s))) (mk M' T)) : ∀ (k many : Nat) (w : Option Value) (M : xM), many + k = P + 1 → BX M0 Mb M → (∀ t, t < NN → bc t < many → ¬ v ≤ gnS M0 P heir t) → Rn ro (d + 8) M_X3_breathFor 11 [some (.ref 42), some (.ref 4), some (.int (nI heir)), some (.int (nI v)), some (.int (nI many)), w] [] (mk M T) Q := by
  intro k
  induction k with
  | zero =>
    intro many w M hm hx ht
    refine bf_end h0 hP0 h8 h5 v9 hNN hx (by omega) (by omega) (kk M none hx (fun s hs => ht s hs ?_))
    have := bc_P ⟨s, by have := pw_P h8; omega⟩ ⟨P, by omega⟩ (by show s < 2 ^ P; omega)
    have : bc s ≤ P := this
    omega
  | succ k ih =>
    intro many w M hm hx ht
    refine bf_go h0 hP0 h8 h5 v9 hNN hx (by omega) (lp_bfi h0 hP0 h8 h5 v9 hNN (by omega) NN 0 M (Nat.zero_add NN) hx (fun t h => absurd h (Nat.not_lt_zero t)) (fun M' hx' hn => ih (many + 1) _ M' (by omega) hx' (fun t h1 h2 => ?_)) (fun M' s0 hx' h1 h2 h3 h4 => kk M' (some s0) hx' ⟨h1, h3, fun s hs hg => ?_⟩))
    · by_cases q : bc t = many
      · exact hn t h1 q
      · exact ht t h1 (by omega)
    · have a : ¬ bc s < many := fun z => ht s hs z hg
      by_cases q : bc s = many
      · refine Or.inr ⟨by omega, ?_⟩
        rcases Nat.lt_or_ge s s0 with z | z
        · exact absurd hg (h4 s z q)
        · exact z
      · exact Or.inl (by omega)
end BFI
set_option maxRecDepth 100000 in
set_option maxHeartbeats 4000000 in
theorem c_breathFor {ro : xRO} {d : Nat} {M : xM} {T : Nat} {M0 : xM} (h0 : Rel M0) (hf : FC M0 M) {P : Nat} (hP0 : M0 62 6 = nI P) (h8 : P ≤ 8) {heir v : Nat} (h5 : heir ≤ 5) (v9 : v ≤ 99999) : Rn ro (d + 8) M_X3_breathFor 0 [some (.ref 42), some (.ref 4), some (.int (nI heir)), some (.int (nI v)), none, none] [] (mk M T) (fun rr h => ∃ p : xM × Option Nat, (FS M p.1 ∧ isB (gnS M0 P heir) v (2 ^ P) p.2) ∧ rr = some (.int (match p.2 with | none => -1 | some s => nI s)) ∧ h = mk p.1 T) := by
  refine R_go 1 (pc' := 1) (L' := [some (.ref 42), some (.ref 4), some (.int (nI heir)), some (.int (nI v)), none, none]) (st' := [.ref 42]) (h' := mk M T) (fun _ => rfl) ?_
  refine R_callE (i := .invokevirtual 81) (kd := 0) (y := M_X3_forget) (as := [.ref 42]) (r := []) (L0 := [some (.ref 42)]) (v := fun M1 => none) (h' := fun M1 => mk M1 T) (pc' := 4) (st' := fun M1 => []) rfl rfl rfl rfl rfl rfl (c_forget (M0 := M0)) (fun M1 x1 => ?_)
  obtain ⟨fo1, me1⟩ := x1
  refine R_go 1 (pc' := 5) (L' := [some (.ref 42), some (.ref 4), some (.int (nI heir)), some (.int (nI v)), none, none]) (st' := [.ref 42]) (h' := mk M1 T) (fun _ => rfl) ?_
  refine R_callE (i := .invokevirtual 148) (kd := 0) (y := M_X3_takeNumbers) (as := [.ref 42]) (r := []) (L0 := [some (.ref 42), none]) (v := fun M2 => none) (h' := fun M2 => mk M2 T) (pc' := 8) (st' := fun M2 => []) rfl rfl rfl rfl rfl rfl (c_takeN) (fun M2 x2 => ?_)
  have xt := x2
  refine R_go 2 (pc' := 11) (L' := [some (.ref 42), some (.ref 4), some (.int (nI heir)), some (.int (nI v)), some (.int 0), none]) (st' := []) (h' := mk M2 T) (fun _ => rfl) ?_
  have fr : ∀ c, c ≠ 40 → c ≠ 41 → c ≠ 42 → M2 c = M c := fun c a b e => (xt.1 c e).trans (fo1 c a b)
  refine lp_bfo (Mb := M2) h0 hP0 h8 h5 v9 rfl (fun M' b hx hb => ⟨(M', b), ⟨fun c hc => ?_, hb⟩, rfl, rfl⟩) (P + 1) 0 none M2 (Nat.zero_add _) ⟨⟨fun c a b e f => (fr c (by omega) (by omega) (by omega)).trans (hf.1 c a b e f), fun j a b => (congrFun (fr 1 (by omega) (by omega) (by omega)) j).trans (hf.2 j a b)⟩, me1.frame (xt.1 40 (by omega)) (xt.1 41 (by omega)), xt.2, fun _ _ _ _ _ _ => rfl⟩ (fun t _ h => absurd h (Nat.not_lt_zero _))
  unfold sIr at hc
  exact (hx.2.2.2 c (by omega) (by omega) (by omega) (by omega) (by omega)).trans (fr c (by omega) (by omega) (by omega))
