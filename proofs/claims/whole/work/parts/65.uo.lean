/-! ROUNDS: gainOf, shareIn, bits -/
def gnT (M0 : xM) (wv : Nat → Nat) (heir : Nat) : Nat → Nat
  | 0 => 0
  | i + 1 => gnT M0 wv heir i + (if heN M0 i = heir then wv i else 0)
set_option maxRecDepth 100000 in
set_option maxHeartbeats 4000000 in
theorem lp_gain_x {ro : xRO} {d : Nat} {M : xM} {T : Nat}  {M0 : xM} {P : Nat} (h8 : P ≤ 8) {wv : Nat → Nat} {heir : Nat} (h5 : heir ≤ 5) (hP : M 1 6 = nI P) (hwv : ∀ j, j < P → M 44 j = nI (wv j) ∧ wv j ≤ 9999) (hhe : ∀ j, j < P → M (3 + j) 5 = nI (heN M0 j) ∧ heN M0 j ≤ 5) {B : Int32} : ∀ (k : Nat) (i : Nat) (w : Option Value), i + k = P →  Rn ro (d + 6) M_X3_gainOf 13 [some (.ref 42), some (.ref 4), some (.int (nI heir)), some (.int B), some (.int (nI (gnT M0 wv heir i))), some (.int (nI i)), w] [] (mk M T) (fun r h => r = some (.int (nI (gnT M0 wv heir P))) ∧ h = mk M T) := by
  intro k
  induction k with
  | zero =>
    intro i w hi
    obtain rfl : i = P := by omega
    refine R_go 3 (pc' := 19) (L' := [some (.ref 42), some (.ref 4), some (.int (nI heir)), some (.int B), some (.int (nI (gnT M0 wv heir i))), some (.int (nI i)), w]) (st' := [.int (M 1 6), .int (nI i)]) (h' := mk M T) (fun _ => rfl) ?_
    refine R_top (y := nI i) (hP) ?_
    refine R_if 1 (c := (nI i) ≤ (nI i)) (t := 72) (f := 22) (L' := [some (.ref 42), some (.ref 4), some (.int (nI heir)), some (.int B), some (.int (nI (gnT M0 wv heir i))), some (.int (nI i)), w]) (st' := []) (h' := mk M T) (fun _ => rfl) (fun g1 => ?_) (fun g1 => ?_)
    · replace g1 : i ≤ i := (nI_leI (a := i) (b := i) (by omega) (by omega)).mp g1
      refine R_ret 2 (pcr := 74) (v := some (.int (nI (gnT M0 wv heir i)))) (h' := mk M T) (fun _ => rfl) ?_
      exact ⟨rfl, rfl⟩
    · replace g1 : ¬ i ≤ i := fun q => g1 ((nI_leI (a := i) (b := i) (by omega) (by omega)).mpr q)
      omega
  | succ k ih =>
    intro i w hi
    have hi5 := (hhe i (by omega)).2
    refine R_go 3 (pc' := 19) (L' := [some (.ref 42), some (.ref 4), some (.int (nI heir)), some (.int B), some (.int (nI (gnT M0 wv heir i))), some (.int (nI i)), w]) (st' := [.int (M 1 6), .int (nI i)]) (h' := mk M T) (fun _ => rfl) ?_
    refine R_top (y := nI P) (hP) ?_
    refine R_if 1 (c := (nI P) ≤ (nI i)) (t := 72) (f := 22) (L' := [some (.ref 42), some (.ref 4), some (.int (nI heir)), some (.int B), some (.int (nI (gnT M0 wv heir i))), some (.int (nI i)), w]) (st' := []) (h' := mk M T) (fun _ => rfl) (fun g1 => ?_) (fun g1 => ?_)
    · replace g1 : P ≤ i := (nI_leI (a := P) (b := i) (by omega) (by omega)).mp g1
      omega
    · replace g1 : ¬ P ≤ i := fun q => g1 ((nI_leI (a := P) (b := i) (by omega) (by omega)).mpr q)
      refine R_if 5 (c := 8 ≤ (nI i)) (t := 72) (f := 32) (L' := [some (.ref 42), some (.ref 4), some (.int (nI heir)), some (.int B), some (.int (nI (gnT M0 wv heir i))), some (.int (nI i)), w]) (st' := []) (h' := mk M T) (fun _ => rfl) (fun g2 => ?_) (fun g2 => ?_)
      · replace g2 : 8 ≤ i := (nI_leI (a := 8) (b := i) (by omega) (by omega)).mp g2
        omega
      · replace g2 : ¬ 8 ≤ i := fun q => g2 ((nI_leI (a := 8) (b := i) (by omega) (by omega)).mpr q)
        refine R_go 2 (pc' := 35) (L' := [some (.ref 42), some (.ref 4), some (.int (nI heir)), some (.int B), some (.int (nI (gnT M0 wv heir i))), some (.int (nI i)), w]) (st' := [.int (nI i), .ref 4]) (h' := mk M T) (fun _ => rfl) ?_
        refine R_callD (i := .invokevirtual 37) (kd := 0) (y := M_X0_paneAt) (as := [.ref 4, .int (nI i)]) (r := []) (L0 := [some (.ref 4), some (.int (nI i))]) (v := some (.ref (3 + i + 3))) (h' := mk M T) (pc' := 38) (st' := [.ref (3 + i + 3)]) rfl rfl rfl rfl rfl rfl (c_paneAt_in hP h8 (n := i) (by omega)) ?_
        refine R_go 4 (pc' := 47) (L' := [some (.ref 42), some (.ref 4), some (.int (nI heir)), some (.int B), some (.int (nI (gnT M0 wv heir i))), some (.int (nI i)), some (.ref (3 + i + 3))]) (st' := [.ref (3 + i + 3)]) (h' := mk M T) (fun _ => rfl) ?_
        refine R_getI (i := 53) (j := 5) (c := 3 + i) (sh_pane (by omega)) rfl rfl rfl ?_
        refine R_top (y := nI (heN M0 i)) ((hhe i (by omega)).1) ?_
        refine R_ifn 2 (c := (nI (heN M0 i)) = (nI heir)) (t := 66) (f := 54) (L' := [some (.ref 42), some (.ref 4), some (.int (nI heir)), some (.int B), some (.int (nI (gnT M0 wv heir i))), some (.int (nI i)), some (.ref (3 + i + 3))]) (st' := []) (h' := mk M T) (fun _ => rfl) (fun g3 => ?_) (fun g3 => ?_)
        · replace g3 : ¬ (heN M0 i) = heir := fun q => g3 ((nI_eq (a := heN M0 i) (b := heir) (by omega) (by omega)).mpr q)
          refine R_go 1 (pc' := 69) (L' := [some (.ref 42), some (.ref 4), some (.int (nI heir)), some (.int B), some (.int (nI (gnT M0 wv heir i))), some (.int ((nI i) + 1)), some (.ref (3 + i + 3))]) (st' := []) (h' := mk M T) (fun _ => rfl) ?_
          rw [nI_1]
          refine R_go 1 (pc' := 13) (L' := [some (.ref 42), some (.ref 4), some (.int (nI heir)), some (.int B), some (.int (nI (gnT M0 wv heir i))), some (.int (nI (i + 1))), some (.ref (3 + i + 3))]) (st' := []) (h' := mk M T) (fun _ => rfl) ?_
          have e : gnT M0 wv heir (i + 1) = gnT M0 wv heir i + (if heN M0 i = heir then wv i else 0) := rfl
          rw [if_neg (by omega)] at e
          rw [Nat.add_zero (gnT M0 wv heir i)] at e
          rw [← e]
          exact ih (i + 1) _ (by omega)
        · replace g3 : (heN M0 i) = heir := (nI_eq (a := heN M0 i) (b := heir) (by omega) (by omega)).mp g3
          refine R_go 4 (pc' := 62) (L' := [some (.ref 42), some (.ref 4), some (.int (nI heir)), some (.int B), some (.int (nI (gnT M0 wv heir i))), some (.int (nI i)), some (.ref (3 + i + 3))]) (st' := [.int (nI i), .ref 47, .int (nI (gnT M0 wv heir i))]) (h' := mk M T) (fun _ => rfl) ?_
          refine R_iald (c := 44) (n := 8) (j := i) rfl rfl (by omega) (by decide) ?_
          refine R_top (y := nI (wv i)) ((hwv i (by omega)).1) ?_
          refine R_go 1 (pc' := 64) (L' := [some (.ref 42), some (.ref 4), some (.int (nI heir)), some (.int B), some (.int (nI (gnT M0 wv heir i))), some (.int (nI i)), some (.ref (3 + i + 3))]) (st' := [.int (nI (gnT M0 wv heir i) + nI (wv i))]) (h' := mk M T) (fun _ => rfl) ?_
          refine R_top (nI_add (gnT M0 wv heir i) (wv i)) ?_
          refine R_go 2 (pc' := 69) (L' := [some (.ref 42), some (.ref 4), some (.int (nI heir)), some (.int B), some (.int (nI ((gnT M0 wv heir i) + (wv i)))), some (.int ((nI i) + 1)), some (.ref (3 + i + 3))]) (st' := []) (h' := mk M T) (fun _ => rfl) ?_
          rw [nI_1]
          refine R_go 1 (pc' := 13) (L' := [some (.ref 42), some (.ref 4), some (.int (nI heir)), some (.int B), some (.int (nI ((gnT M0 wv heir i) + (wv i)))), some (.int (nI (i + 1))), some (.ref (3 + i + 3))]) (st' := []) (h' := mk M T) (fun _ => rfl) ?_
          have e : gnT M0 wv heir (i + 1) = gnT M0 wv heir i + (if heN M0 i = heir then wv i else 0) := rfl
          rw [if_pos (by omega)] at e
          rw [← e]
          exact ih (i + 1) _ (by omega)
set_option maxRecDepth 100000 in
set_option maxHeartbeats 4000000 in
theorem lp_gain_m {ro : xRO} {d : Nat} {M : xM} {T : Nat}  {M0 : xM} {P : Nat} (h8 : P ≤ 8) {wv : Nat → Nat} {heir : Nat} (h5 : heir ≤ 5) (hP : M 62 6 = nI P) (hwv : ∀ j, j < P → M 73 j = nI (wv j) ∧ wv j ≤ 9999) (hhe : ∀ j, j < P → M 62 (10 + 7 * j + 5) = nI (heN M0 j) ∧ heN M0 j ≤ 5) : ∀ (k : Nat) (i : Nat) , i + k = P →  Rn ro (d + 1) M_X8_shareIn 4 [some (.ref 64), some (.int (nI heir)), some (.int (nI (gnT M0 wv heir i))), some (.int (nI i))] [] (mk M T) (fun r h => r = some (.int (nI (gnT M0 wv heir P))) ∧ h = mk M T) := by
  intro k
  induction k with
  | zero =>
    intro i hi
    obtain rfl : i = P := by omega
    refine R_go 5 (pc' := 12) (L' := [some (.ref 64), some (.int (nI heir)), some (.int (nI (gnT M0 wv heir i))), some (.int (nI i))]) (st' := [.int (M 62 6), .int (nI i)]) (h' := mk M T) (fun _ => rfl) ?_
    refine R_top (y := nI i) (hP) ?_
    refine R_if 1 (c := (nI i) ≤ (nI i)) (t := 44) (f := 15) (L' := [some (.ref 64), some (.int (nI heir)), some (.int (nI (gnT M0 wv heir i))), some (.int (nI i))]) (st' := []) (h' := mk M T) (fun _ => rfl) (fun g1 => ?_) (fun g1 => ?_)
    · replace g1 : i ≤ i := (nI_leI (a := i) (b := i) (by omega) (by omega)).mp g1
      refine R_ret 2 (pcr := 45) (v := some (.int (nI (gnT M0 wv heir i)))) (h' := mk M T) (fun _ => rfl) ?_
      exact ⟨rfl, rfl⟩
    · replace g1 : ¬ i ≤ i := fun q => g1 ((nI_leI (a := i) (b := i) (by omega) (by omega)).mpr q)
      omega
  | succ k ih =>
    intro i hi
    have hi5 := (hhe i (by omega)).2
    refine R_go 5 (pc' := 12) (L' := [some (.ref 64), some (.int (nI heir)), some (.int (nI (gnT M0 wv heir i))), some (.int (nI i))]) (st' := [.int (M 62 6), .int (nI i)]) (h' := mk M T) (fun _ => rfl) ?_
    refine R_top (y := nI P) (hP) ?_
    refine R_if 1 (c := (nI P) ≤ (nI i)) (t := 44) (f := 15) (L' := [some (.ref 64), some (.int (nI heir)), some (.int (nI (gnT M0 wv heir i))), some (.int (nI i))]) (st' := []) (h' := mk M T) (fun _ => rfl) (fun g1 => ?_) (fun g1 => ?_)
    · replace g1 : P ≤ i := (nI_leI (a := P) (b := i) (by omega) (by omega)).mp g1
      omega
    · replace g1 : ¬ P ≤ i := fun q => g1 ((nI_leI (a := P) (b := i) (by omega) (by omega)).mpr q)
      refine R_go 4 (pc' := 19) (L' := [some (.ref 64), some (.int (nI heir)), some (.int (nI (gnT M0 wv heir i))), some (.int (nI i))]) (st' := [.int 5, .int (nI i), .ref 64, .int (nI (gnT M0 wv heir i))]) (h' := mk M T) (fun _ => rfl) ?_
      refine R_callD (i := .invokevirtual 57) (kd := 0) (y := M_X8_of) (as := [.ref 64, .int (nI i), .int 5]) (r := [.int (nI (gnT M0 wv heir i))]) (L0 := [some (.ref 64), some (.int (nI i)), some (.int 5)]) (v := some (.int (M 62 (10 + 7 * i + 5)))) (h' := mk M T) (pc' := 22) (st' := [.int (M 62 (10 + 7 * i + 5)), .int (nI (gnT M0 wv heir i))]) rfl rfl rfl rfl rfl rfl (m_of (p := i) (j := 5) (by omega) (by omega)) ?_
      refine R_top (y := nI (heN M0 i)) ((hhe i (by omega)).1) ?_
      refine R_ifn 2 (c := (nI (heN M0 i)) = (nI heir)) (t := 35) (f := 26) (L' := [some (.ref 64), some (.int (nI heir)), some (.int (nI (gnT M0 wv heir i))), some (.int (nI i))]) (st' := [.int (nI (gnT M0 wv heir i))]) (h' := mk M T) (fun _ => rfl) (fun g2 => ?_) (fun g2 => ?_)
      · replace g2 : ¬ (heN M0 i) = heir := fun q => g2 ((nI_eq (a := heN M0 i) (b := heir) (by omega) (by omega)).mpr q)
        refine R_go 2 (pc' := 37) (L' := [some (.ref 64), some (.int (nI heir)), some (.int (nI (gnT M0 wv heir i))), some (.int (nI i))]) (st' := [.int (nI (gnT M0 wv heir i) + 0)]) (h' := mk M T) (fun _ => rfl) ?_
        refine R_top (nI_add (gnT M0 wv heir i) 0) ?_
        refine R_go 2 (pc' := 41) (L' := [some (.ref 64), some (.int (nI heir)), some (.int (nI ((gnT M0 wv heir i) + 0))), some (.int ((nI i) + 1))]) (st' := []) (h' := mk M T) (fun _ => rfl) ?_
        rw [nI_1]
        refine R_go 1 (pc' := 4) (L' := [some (.ref 64), some (.int (nI heir)), some (.int (nI ((gnT M0 wv heir i) + 0))), some (.int (nI (i + 1)))]) (st' := []) (h' := mk M T) (fun _ => rfl) ?_
        have e : gnT M0 wv heir (i + 1) = gnT M0 wv heir i + (if heN M0 i = heir then wv i else 0) := rfl
        rw [if_neg (by omega)] at e
        rw [← e]
        exact ih (i + 1) (by omega)
      · replace g2 : (heN M0 i) = heir := (nI_eq (a := heN M0 i) (b := heir) (by omega) (by omega)).mp g2
        refine R_go 3 (pc' := 31) (L' := [some (.ref 64), some (.int (nI heir)), some (.int (nI (gnT M0 wv heir i))), some (.int (nI i))]) (st' := [.int (nI i), .ref 76, .int (nI (gnT M0 wv heir i))]) (h' := mk M T) (fun _ => rfl) ?_
        refine R_iald (c := 73) (n := 8) (j := i) rfl rfl (by omega) (by decide) ?_
        refine R_top (y := nI (wv i)) ((hwv i (by omega)).1) ?_
        refine R_go 2 (pc' := 37) (L' := [some (.ref 64), some (.int (nI heir)), some (.int (nI (gnT M0 wv heir i))), some (.int (nI i))]) (st' := [.int (nI (gnT M0 wv heir i) + nI (wv i))]) (h' := mk M T) (fun _ => rfl) ?_
        refine R_top (nI_add (gnT M0 wv heir i) (wv i)) ?_
        refine R_go 2 (pc' := 41) (L' := [some (.ref 64), some (.int (nI heir)), some (.int (nI ((gnT M0 wv heir i) + (wv i)))), some (.int ((nI i) + 1))]) (st' := []) (h' := mk M T) (fun _ => rfl) ?_
        rw [nI_1]
        refine R_go 1 (pc' := 4) (L' := [some (.ref 64), some (.int (nI heir)), some (.int (nI ((gnT M0 wv heir i) + (wv i)))), some (.int (nI (i + 1)))]) (st' := []) (h' := mk M T) (fun _ => rfl) ?_
        have e : gnT M0 wv heir (i + 1) = gnT M0 wv heir i + (if heN M0 i = heir then wv i else 0) := rfl
        rw [if_pos (by omega)] at e
        rw [← e]
        exact ih (i + 1) (by omega)
set_option maxRecDepth 100000 in
set_option maxHeartbeats 4000000 in
theorem c_gainOf {ro : xRO} {d : Nat} {M : xM} {T : Nat} {M0 : xM} (h0 : Rel M0) (hf : FC M0 M) {P : Nat} (hP0 : M0 62 6 = nI P) (h8 : P ≤ 8) {ord : Nat → Nat} (ho : ∀ i, i < P → ord i < P) (h42 : ∀ i, i < P → M 42 i = nI (ord i)) (hm : Memo M0 M) (hsu : ∀ j, j < P → ∃ i, i < P ∧ ord i = j) {B : Int32} {heir : Nat} (h5 : heir ≤ 5) : Rn ro (d + 7) M_X3_gainOf 0 [some (.ref 42), some (.ref 4), some (.int (nI heir)), some (.int B), none, none, none] [] (mk M T) (fun rr h => ∃ M', (FC M0 M' ∧ Memo M0 M' ∧ xWK M M') ∧ rr = some (.int (nI (gnT M0 (wkV M0 B ord P) heir P))) ∧ h = mk M' T) := by
  refine R_go 3 (pc' := 3) (L' := [some (.ref 42), some (.ref 4), some (.int (nI heir)), some (.int B), none, none, none]) (st' := [.int B, .ref 4, .ref 42]) (h' := mk M T) (fun _ => rfl) ?_
  refine R_callE (i := .invokevirtual 84) (kd := 0) (y := M_X3_walk) (as := [.ref 42, .ref 4, .int B]) (r := []) (L0 := [some (.ref 42), some (.ref 4), some (.int B), none, none, none, none, none, none, none]) (v := fun M2 => some (.int (nI (rsum M0 B ord P)))) (h' := fun M2 => mk M2 T) (pc' := 6) (st' := fun M2 => [.int (nI (rsum M0 B ord P))]) rfl rfl rfl rfl rfl rfl (c_walk (B := B) h0 hf hP0 h8 ho h42 hm) (fun M2 x1 => ?_)
  have xw := x1
  refine R_go 5 (pc' := 13) (L' := [some (.ref 42), some (.ref 4), some (.int (nI heir)), some (.int B), some (.int 0), some (.int 0), none]) (st' := []) (h' := mk M2 T) (fun _ => rfl) ?_
  obtain ⟨xa, xb, xc, xd⟩ := xw
  refine ((lp_gain_x (M := M2) (T := T) (d := d + 1) (M0 := M0) h8 (wv := wkV M0 B ord P) h5 (fc_P h0 xa hP0) (fun j hj => ⟨by rw [xd]; exact (wkV_p (hsu j hj)).2 _, (wkV_p (hsu j hj)).1⟩) (fun j hj => ⟨(fc_pane h0 xa (p := j) (by omega)).2.2.1, (fc_pane h0 xa (p := j) (by omega)).2.2.2.2.2⟩) P 0 none (Nat.zero_add P)).imp (fun _ _ q => ?_))
  exact ⟨M2, ⟨xa, xb, xc⟩, q.1, q.2⟩
/-- bits, as the model counts them -/
def kI : Nat → Int32 → Option Nat
  | 0, r => if r = 0 then some 0 else none
  | k + 1, r => if r = 0 then some 0 else (kI k (r &&& (r - 1))).map (· + 1)
def bc (s : Nat) : Nat := (kI 9 (nI s)).getD 0
set_option maxRecDepth 100000 in
theorem bc_all : ∀ s : Fin 256, kI 9 (nI s.val) = some (bc s.val) ∧ bc s.val ≤ 8 := by decide
def bcX (x : Int32) : Int32 := (((((((x - (((x.toUInt32 >>> (Int32.toUInt32 1 &&& Int32.toUInt32 31)).toInt32) &&& 1431655765)) &&& 858993459) + ((((x - (((x.toUInt32 >>> (Int32.toUInt32 1 &&& Int32.toUInt32 31)).toInt32) &&& 1431655765)).toUInt32 >>> (Int32.toUInt32 2 &&& Int32.toUInt32 31)).toInt32) &&& 858993459)) + (((((x - (((x.toUInt32 >>> (Int32.toUInt32 1 &&& Int32.toUInt32 31)).toInt32) &&& 1431655765)) &&& 858993459) + ((((x - (((x.toUInt32 >>> (Int32.toUInt32 1 &&& Int32.toUInt32 31)).toInt32) &&& 1431655765)).toUInt32 >>> (Int32.toUInt32 2 &&& Int32.toUInt32 31)).toInt32) &&& 858993459)).toUInt32 >>> (Int32.toUInt32 4 &&& Int32.toUInt32 31)).toInt32)) &&& 252645135) + (((((((x - (((x.toUInt32 >>> (Int32.toUInt32 1 &&& Int32.toUInt32 31)).toInt32) &&& 1431655765)) &&& 858993459) + ((((x - (((x.toUInt32 >>> (Int32.toUInt32 1 &&& Int32.toUInt32 31)).toInt32) &&& 1431655765)).toUInt32 >>> (Int32.toUInt32 2 &&& Int32.toUInt32 31)).toInt32) &&& 858993459)) + (((((x - (((x.toUInt32 >>> (Int32.toUInt32 1 &&& Int32.toUInt32 31)).toInt32) &&& 1431655765)) &&& 858993459) + ((((x - (((x.toUInt32 >>> (Int32.toUInt32 1 &&& Int32.toUInt32 31)).toInt32) &&& 1431655765)).toUInt32 >>> (Int32.toUInt32 2 &&& Int32.toUInt32 31)).toInt32) &&& 858993459)).toUInt32 >>> (Int32.toUInt32 4 &&& Int32.toUInt32 31)).toInt32)) &&& 252645135).toUInt32 >>> (Int32.toUInt32 8 &&& Int32.toUInt32 31)).toInt32)) + ((((((((x - (((x.toUInt32 >>> (Int32.toUInt32 1 &&& Int32.toUInt32 31)).toInt32) &&& 1431655765)) &&& 858993459) + ((((x - (((x.toUInt32 >>> (Int32.toUInt32 1 &&& Int32.toUInt32 31)).toInt32) &&& 1431655765)).toUInt32 >>> (Int32.toUInt32 2 &&& Int32.toUInt32 31)).toInt32) &&& 858993459)) + (((((x - (((x.toUInt32 >>> (Int32.toUInt32 1 &&& Int32.toUInt32 31)).toInt32) &&& 1431655765)) &&& 858993459) + ((((x - (((x.toUInt32 >>> (Int32.toUInt32 1 &&& Int32.toUInt32 31)).toInt32) &&& 1431655765)).toUInt32 >>> (Int32.toUInt32 2 &&& Int32.toUInt32 31)).toInt32) &&& 858993459)).toUInt32 >>> (Int32.toUInt32 4 &&& Int32.toUInt32 31)).toInt32)) &&& 252645135) + (((((((x - (((x.toUInt32 >>> (Int32.toUInt32 1 &&& Int32.toUInt32 31)).toInt32) &&& 1431655765)) &&& 858993459) + ((((x - (((x.toUInt32 >>> (Int32.toUInt32 1 &&& Int32.toUInt32 31)).toInt32) &&& 1431655765)).toUInt32 >>> (Int32.toUInt32 2 &&& Int32.toUInt32 31)).toInt32) &&& 858993459)) + (((((x - (((x.toUInt32 >>> (Int32.toUInt32 1 &&& Int32.toUInt32 31)).toInt32) &&& 1431655765)) &&& 858993459) + ((((x - (((x.toUInt32 >>> (Int32.toUInt32 1 &&& Int32.toUInt32 31)).toInt32) &&& 1431655765)).toUInt32 >>> (Int32.toUInt32 2 &&& Int32.toUInt32 31)).toInt32) &&& 858993459)).toUInt32 >>> (Int32.toUInt32 4 &&& Int32.toUInt32 31)).toInt32)) &&& 252645135).toUInt32 >>> (Int32.toUInt32 8 &&& Int32.toUInt32 31)).toInt32)).toUInt32 >>> (Int32.toUInt32 16 &&& Int32.toUInt32 31)).toInt32)) &&& 63
set_option maxRecDepth 100000 in
set_option maxHeartbeats 4000000 in
theorem c_bcX {ro : xRO} {d : Nat} {M : xM} {T : Nat} {x : Int32} : Rn ro d M_J6_bitCount_0f7a4 0 [some (.int x)] [] (mk M T) (fun r h => r = some (.int (bcX x)) ∧ h = mk M T) := by
  refine R_go 40 (pc' := 51) (L' := [some (.int (((((((x - (((x.toUInt32 >>> (Int32.toUInt32 1 &&& Int32.toUInt32 31)).toInt32) &&& 1431655765)) &&& 858993459) + ((((x - (((x.toUInt32 >>> (Int32.toUInt32 1 &&& Int32.toUInt32 31)).toInt32) &&& 1431655765)).toUInt32 >>> (Int32.toUInt32 2 &&& Int32.toUInt32 31)).toInt32) &&& 858993459)) + (((((x - (((x.toUInt32 >>> (Int32.toUInt32 1 &&& Int32.toUInt32 31)).toInt32) &&& 1431655765)) &&& 858993459) + ((((x - (((x.toUInt32 >>> (Int32.toUInt32 1 &&& Int32.toUInt32 31)).toInt32) &&& 1431655765)).toUInt32 >>> (Int32.toUInt32 2 &&& Int32.toUInt32 31)).toInt32) &&& 858993459)).toUInt32 >>> (Int32.toUInt32 4 &&& Int32.toUInt32 31)).toInt32)) &&& 252645135) + (((((((x - (((x.toUInt32 >>> (Int32.toUInt32 1 &&& Int32.toUInt32 31)).toInt32) &&& 1431655765)) &&& 858993459) + ((((x - (((x.toUInt32 >>> (Int32.toUInt32 1 &&& Int32.toUInt32 31)).toInt32) &&& 1431655765)).toUInt32 >>> (Int32.toUInt32 2 &&& Int32.toUInt32 31)).toInt32) &&& 858993459)) + (((((x - (((x.toUInt32 >>> (Int32.toUInt32 1 &&& Int32.toUInt32 31)).toInt32) &&& 1431655765)) &&& 858993459) + ((((x - (((x.toUInt32 >>> (Int32.toUInt32 1 &&& Int32.toUInt32 31)).toInt32) &&& 1431655765)).toUInt32 >>> (Int32.toUInt32 2 &&& Int32.toUInt32 31)).toInt32) &&& 858993459)).toUInt32 >>> (Int32.toUInt32 4 &&& Int32.toUInt32 31)).toInt32)) &&& 252645135).toUInt32 >>> (Int32.toUInt32 8 &&& Int32.toUInt32 31)).toInt32)) + ((((((((x - (((x.toUInt32 >>> (Int32.toUInt32 1 &&& Int32.toUInt32 31)).toInt32) &&& 1431655765)) &&& 858993459) + ((((x - (((x.toUInt32 >>> (Int32.toUInt32 1 &&& Int32.toUInt32 31)).toInt32) &&& 1431655765)).toUInt32 >>> (Int32.toUInt32 2 &&& Int32.toUInt32 31)).toInt32) &&& 858993459)) + (((((x - (((x.toUInt32 >>> (Int32.toUInt32 1 &&& Int32.toUInt32 31)).toInt32) &&& 1431655765)) &&& 858993459) + ((((x - (((x.toUInt32 >>> (Int32.toUInt32 1 &&& Int32.toUInt32 31)).toInt32) &&& 1431655765)).toUInt32 >>> (Int32.toUInt32 2 &&& Int32.toUInt32 31)).toInt32) &&& 858993459)).toUInt32 >>> (Int32.toUInt32 4 &&& Int32.toUInt32 31)).toInt32)) &&& 252645135) + (((((((x - (((x.toUInt32 >>> (Int32.toUInt32 1 &&& Int32.toUInt32 31)).toInt32) &&& 1431655765)) &&& 858993459) + ((((x - (((x.toUInt32 >>> (Int32.toUInt32 1 &&& Int32.toUInt32 31)).toInt32) &&& 1431655765)).toUInt32 >>> (Int32.toUInt32 2 &&& Int32.toUInt32 31)).toInt32) &&& 858993459)) + (((((x - (((x.toUInt32 >>> (Int32.toUInt32 1 &&& Int32.toUInt32 31)).toInt32) &&& 1431655765)) &&& 858993459) + ((((x - (((x.toUInt32 >>> (Int32.toUInt32 1 &&& Int32.toUInt32 31)).toInt32) &&& 1431655765)).toUInt32 >>> (Int32.toUInt32 2 &&& Int32.toUInt32 31)).toInt32) &&& 858993459)).toUInt32 >>> (Int32.toUInt32 4 &&& Int32.toUInt32 31)).toInt32)) &&& 252645135).toUInt32 >>> (Int32.toUInt32 8 &&& Int32.toUInt32 31)).toInt32)).toUInt32 >>> (Int32.toUInt32 16 &&& Int32.toUInt32 31)).toInt32)))]) (st' := [.int 63, .int (((((((x - (((x.toUInt32 >>> (Int32.toUInt32 1 &&& Int32.toUInt32 31)).toInt32) &&& 1431655765)) &&& 858993459) + ((((x - (((x.toUInt32 >>> (Int32.toUInt32 1 &&& Int32.toUInt32 31)).toInt32) &&& 1431655765)).toUInt32 >>> (Int32.toUInt32 2 &&& Int32.toUInt32 31)).toInt32) &&& 858993459)) + (((((x - (((x.toUInt32 >>> (Int32.toUInt32 1 &&& Int32.toUInt32 31)).toInt32) &&& 1431655765)) &&& 858993459) + ((((x - (((x.toUInt32 >>> (Int32.toUInt32 1 &&& Int32.toUInt32 31)).toInt32) &&& 1431655765)).toUInt32 >>> (Int32.toUInt32 2 &&& Int32.toUInt32 31)).toInt32) &&& 858993459)).toUInt32 >>> (Int32.toUInt32 4 &&& Int32.toUInt32 31)).toInt32)) &&& 252645135) + (((((((x - (((x.toUInt32 >>> (Int32.toUInt32 1 &&& Int32.toUInt32 31)).toInt32) &&& 1431655765)) &&& 858993459) + ((((x - (((x.toUInt32 >>> (Int32.toUInt32 1 &&& Int32.toUInt32 31)).toInt32) &&& 1431655765)).toUInt32 >>> (Int32.toUInt32 2 &&& Int32.toUInt32 31)).toInt32) &&& 858993459)) + (((((x - (((x.toUInt32 >>> (Int32.toUInt32 1 &&& Int32.toUInt32 31)).toInt32) &&& 1431655765)) &&& 858993459) + ((((x - (((x.toUInt32 >>> (Int32.toUInt32 1 &&& Int32.toUInt32 31)).toInt32) &&& 1431655765)).toUInt32 >>> (Int32.toUInt32 2 &&& Int32.toUInt32 31)).toInt32) &&& 858993459)).toUInt32 >>> (Int32.toUInt32 4 &&& Int32.toUInt32 31)).toInt32)) &&& 252645135).toUInt32 >>> (Int32.toUInt32 8 &&& Int32.toUInt32 31)).toInt32)) + ((((((((x - (((x.toUInt32 >>> (Int32.toUInt32 1 &&& Int32.toUInt32 31)).toInt32) &&& 1431655765)) &&& 858993459) + ((((x - (((x.toUInt32 >>> (Int32.toUInt32 1 &&& Int32.toUInt32 31)).toInt32) &&& 1431655765)).toUInt32 >>> (Int32.toUInt32 2 &&& Int32.toUInt32 31)).toInt32) &&& 858993459)) + (((((x - (((x.toUInt32 >>> (Int32.toUInt32 1 &&& Int32.toUInt32 31)).toInt32) &&& 1431655765)) &&& 858993459) + ((((x - (((x.toUInt32 >>> (Int32.toUInt32 1 &&& Int32.toUInt32 31)).toInt32) &&& 1431655765)).toUInt32 >>> (Int32.toUInt32 2 &&& Int32.toUInt32 31)).toInt32) &&& 858993459)).toUInt32 >>> (Int32.toUInt32 4 &&& Int32.toUInt32 31)).toInt32)) &&& 252645135) + (((((((x - (((x.toUInt32 >>> (Int32.toUInt32 1 &&& Int32.toUInt32 31)).toInt32) &&& 1431655765)) &&& 858993459) + ((((x - (((x.toUInt32 >>> (Int32.toUInt32 1 &&& Int32.toUInt32 31)).toInt32) &&& 1431655765)).toUInt32 >>> (Int32.toUInt32 2 &&& Int32.toUInt32 31)).toInt32) &&& 858993459)) + (((((x - (((x.toUInt32 >>> (Int32.toUInt32 1 &&& Int32.toUInt32 31)).toInt32) &&& 1431655765)) &&& 858993459) + ((((x - (((x.toUInt32 >>> (Int32.toUInt32 1 &&& Int32.toUInt32 31)).toInt32) &&& 1431655765)).toUInt32 >>> (Int32.toUInt32 2 &&& Int32.toUInt32 31)).toInt32) &&& 858993459)).toUInt32 >>> (Int32.toUInt32 4 &&& Int32.toUInt32 31)).toInt32)) &&& 252645135).toUInt32 >>> (Int32.toUInt32 8 &&& Int32.toUInt32 31)).toInt32)).toUInt32 >>> (Int32.toUInt32 16 &&& Int32.toUInt32 31)).toInt32))]) (h' := mk M T) (fun _ => rfl) ?_
  refine R_ret 2 (pcr := 52) (v := some (.int ((((((((x - (((x.toUInt32 >>> (Int32.toUInt32 1 &&& Int32.toUInt32 31)).toInt32) &&& 1431655765)) &&& 858993459) + ((((x - (((x.toUInt32 >>> (Int32.toUInt32 1 &&& Int32.toUInt32 31)).toInt32) &&& 1431655765)).toUInt32 >>> (Int32.toUInt32 2 &&& Int32.toUInt32 31)).toInt32) &&& 858993459)) + (((((x - (((x.toUInt32 >>> (Int32.toUInt32 1 &&& Int32.toUInt32 31)).toInt32) &&& 1431655765)) &&& 858993459) + ((((x - (((x.toUInt32 >>> (Int32.toUInt32 1 &&& Int32.toUInt32 31)).toInt32) &&& 1431655765)).toUInt32 >>> (Int32.toUInt32 2 &&& Int32.toUInt32 31)).toInt32) &&& 858993459)).toUInt32 >>> (Int32.toUInt32 4 &&& Int32.toUInt32 31)).toInt32)) &&& 252645135) + (((((((x - (((x.toUInt32 >>> (Int32.toUInt32 1 &&& Int32.toUInt32 31)).toInt32) &&& 1431655765)) &&& 858993459) + ((((x - (((x.toUInt32 >>> (Int32.toUInt32 1 &&& Int32.toUInt32 31)).toInt32) &&& 1431655765)).toUInt32 >>> (Int32.toUInt32 2 &&& Int32.toUInt32 31)).toInt32) &&& 858993459)) + (((((x - (((x.toUInt32 >>> (Int32.toUInt32 1 &&& Int32.toUInt32 31)).toInt32) &&& 1431655765)) &&& 858993459) + ((((x - (((x.toUInt32 >>> (Int32.toUInt32 1 &&& Int32.toUInt32 31)).toInt32) &&& 1431655765)).toUInt32 >>> (Int32.toUInt32 2 &&& Int32.toUInt32 31)).toInt32) &&& 858993459)).toUInt32 >>> (Int32.toUInt32 4 &&& Int32.toUInt32 31)).toInt32)) &&& 252645135).toUInt32 >>> (Int32.toUInt32 8 &&& Int32.toUInt32 31)).toInt32)) + ((((((((x - (((x.toUInt32 >>> (Int32.toUInt32 1 &&& Int32.toUInt32 31)).toInt32) &&& 1431655765)) &&& 858993459) + ((((x - (((x.toUInt32 >>> (Int32.toUInt32 1 &&& Int32.toUInt32 31)).toInt32) &&& 1431655765)).toUInt32 >>> (Int32.toUInt32 2 &&& Int32.toUInt32 31)).toInt32) &&& 858993459)) + (((((x - (((x.toUInt32 >>> (Int32.toUInt32 1 &&& Int32.toUInt32 31)).toInt32) &&& 1431655765)) &&& 858993459) + ((((x - (((x.toUInt32 >>> (Int32.toUInt32 1 &&& Int32.toUInt32 31)).toInt32) &&& 1431655765)).toUInt32 >>> (Int32.toUInt32 2 &&& Int32.toUInt32 31)).toInt32) &&& 858993459)).toUInt32 >>> (Int32.toUInt32 4 &&& Int32.toUInt32 31)).toInt32)) &&& 252645135) + (((((((x - (((x.toUInt32 >>> (Int32.toUInt32 1 &&& Int32.toUInt32 31)).toInt32) &&& 1431655765)) &&& 858993459) + ((((x - (((x.toUInt32 >>> (Int32.toUInt32 1 &&& Int32.toUInt32 31)).toInt32) &&& 1431655765)).toUInt32 >>> (Int32.toUInt32 2 &&& Int32.toUInt32 31)).toInt32) &&& 858993459)) + (((((x - (((x.toUInt32 >>> (Int32.toUInt32 1 &&& Int32.toUInt32 31)).toInt32) &&& 1431655765)) &&& 858993459) + ((((x - (((x.toUInt32 >>> (Int32.toUInt32 1 &&& Int32.toUInt32 31)).toInt32) &&& 1431655765)).toUInt32 >>> (Int32.toUInt32 2 &&& Int32.toUInt32 31)).toInt32) &&& 858993459)).toUInt32 >>> (Int32.toUInt32 4 &&& Int32.toUInt32 31)).toInt32)) &&& 252645135).toUInt32 >>> (Int32.toUInt32 8 &&& Int32.toUInt32 31)).toInt32)).toUInt32 >>> (Int32.toUInt32 16 &&& Int32.toUInt32 31)).toInt32)) &&& 63))) (h' := mk M T) (fun _ => rfl) ?_
  exact ⟨rfl, rfl⟩
set_option maxRecDepth 100000 in
theorem bcX_all : ∀ s : Fin 256, bcX (nI s.val) = nI (bc s.val) := by decide
theorem c_bitCount {ro : xRO} {d : Nat} {M : xM} {T : Nat} {s : Nat} (hs : s < 256) : Rn ro d M_J6_bitCount_0f7a4 0 [some (.int (nI s))] [] (mk M T) (fun r h => r = some (.int (nI (bc s))) ∧ h = mk M T) :=
  c_bcX.imp (fun _ _ q => ⟨by rw [q.1, bcX_all ⟨s, hs⟩], q.2⟩)
set_option maxRecDepth 100000 in
set_option maxHeartbeats 4000000 in
theorem bits_0 {ro : xRO} {d : Nat} {M : xM} {T : Nat} {Q : Option Value → xH → Prop} {x0 : Int32} {n : Nat} (k1 : Q (some (.int (nI n))) (mk M T)) : Rn ro (d) M_X8_bits 4 [some (.int x0), some (.int (nI n)), some (.int 0)] [] (mk M T) Q := by
  refine R_ret 4 (pcr := 21) (v := some (.int (nI n))) (h' := mk M T) (fun _ => rfl) ?_
  exact k1
set_option maxRecDepth 100000 in
set_option maxHeartbeats 4000000 in
theorem bits_1 {ro : xRO} {d : Nat} {M : xM} {T : Nat} {Q : Option Value → xH → Prop} {x0 y : Int32} {n : Nat} (hy : ¬ y = 0) (k1 : Rn ro (d) M_X8_bits 4 [some (.int x0), some (.int (nI (n + 1))), some (.int (y &&& (y - 1)))] [] (mk M T) Q) : Rn ro (d) M_X8_bits 4 [some (.int x0), some (.int (nI n)), some (.int y)] [] (mk M T) Q := by
  refine R_if 2 (c := y = 0) (t := 20) (f := 8) (L' := [some (.int x0), some (.int (nI n)), some (.int y)]) (st' := []) (h' := mk M T) (fun _ => rfl) (fun g1 => ?_) (fun g1 => ?_)
  · exact absurd g1 (hy)
  · refine R_go 1 (pc' := 11) (L' := [some (.int x0), some (.int ((nI n) + 1)), some (.int y)]) (st' := []) (h' := mk M T) (fun _ => rfl) ?_
    rw [nI_1]
    refine R_go 7 (pc' := 4) (L' := [some (.int x0), some (.int (nI (n + 1))), some (.int (y &&& (y - 1)))]) (st' := []) (h' := mk M T) (fun _ => rfl) ?_
    exact k1
theorem lp_bits {ro : xRO} {d : Nat} {M : xM} {T : Nat} {x0 : Int32} : ∀ (k : Nat) (y : Int32) (n b : Nat), kI k y = some b → Rn ro d M_X8_bits 4 [some (.int x0), some (.int (nI n)), some (.int y)] [] (mk M T) (fun r h => r = some (.int (nI (n + b))) ∧ h = mk M T) := by
  intro k
  induction k with
  | zero =>
    intro y n b h
    unfold kI at h
    by_cases q : y = 0
    · rw [if_pos q] at h
      cases h
      rw [q]
      exact bits_0 ⟨rfl, rfl⟩
    · rw [if_neg q] at h; cases h
  | succ k ih =>
    intro y n b h
    unfold kI at h
    by_cases q : y = 0
    · rw [if_pos q] at h
      cases h
      rw [q]
      exact bits_0 ⟨rfl, rfl⟩
    · rw [if_neg q] at h
      cases e : kI k (y &&& (y - 1)) with
      | none => rw [e] at h; cases h
      | some b' =>
        rw [e] at h
        cases h
        refine bits_1 q ?_
        have := ih (y &&& (y - 1)) (n + 1) b' e
        rw [show n + (b' + 1) = n + 1 + b' by omega]
        exact this
set_option maxRecDepth 100000 in
set_option maxHeartbeats 4000000 in
theorem c_bits {ro : xRO} {d : Nat} {M : xM} {T : Nat} {s : Nat} (hs : s < 256) : Rn ro d M_X8_bits 0 [some (.int (nI s)), none, none] [] (mk M T) (fun r h => r = some (.int (nI (bc s))) ∧ h = mk M T) := by
  refine R_go 4 (pc' := 4) (L' := [some (.int (nI s)), some (.int 0), some (.int (nI s))]) (st' := []) (h' := mk M T) (fun _ => rfl) ?_
  have w := lp_bits (ro := ro) (d := d) (M := M) (T := T) (x0 := nI s) 9 (nI s) 0 (bc s) (bc_all ⟨s, hs⟩).1
  rw [Nat.zero_add] at w
  exact w
