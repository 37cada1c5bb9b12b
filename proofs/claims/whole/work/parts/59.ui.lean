/-! ROUNDS: readTo, reads, the whole of them -/
theorem rel_pc {M0 : xM} (h : Rel M0) {wv : Nat → Nat} : (∀ j, j < 6 → M0 62 (66 + j) = nI (puT M0 wv 0 j)) ∧ M0 62 4 = nI (chT M0 wv 0) := by
  obtain ⟨P, H, h8, h6, pm, hm, px, hx, a, b1, b2, b3, b4, c2, c3, c4, c5⟩ := rel_all h
  exact ⟨fun j hj => (iN_c (c5 j hj).1 (by omega)).1, (iN_c c2.2.2.2.2.2.2 (by omega)).1⟩
set_option maxRecDepth 100000 in
set_option maxHeartbeats 4000000 in
theorem c_readTo {ro : xRO} {d : Nat} {M : xM} {T : Nat} {M0 : xM} (h0 : Rel M0) (hf : FC M0 M) {P : Nat} (hP0 : M0 62 6 = nI P) (h8 : P ≤ 8) {ord : Nat → Nat} (ho : ∀ i, i < P → ord i < P) (h42 : ∀ i, i < P → M 42 i = nI (ord i)) (hm : Memo M0 M) (hsu : ∀ j, j < P → ∃ i, i < P ∧ ord i = j) (hpu : ∀ j, j < 6 → M 11 j = M0 62 (66 + j)) (hch : M 1 10 = M0 62 4) {nt : Nat} (hnt : M 1 14 = nI nt) : Rn ro (d + 7) M_X3_readTo 0 [some (.ref 42), some (.ref 4), none, none, none, none] [] (mk M T) (fun rr h => ∃ M', (FC M0 M' ∧ Memo M0 M' ∧ (∀ c, c ≠ 1 → c ≠ 11 → c ≠ 16 → c ≠ 19 → c ≠ 40 → c ≠ 41 → c ≠ 44 → M' c = M c) ∧ (∀ j, j ≠ 10 → j ≠ 14 → M' 1 j = M 1 j) ∧ (∀ j, j < 6 → M' 11 j = nI (puT M0 (wkV M0 0 ord P) P j)) ∧ M' 1 10 = nI (chT M0 (wkV M0 0 ord P) P) ∧ M' 1 14 = nI (nt + 1)) ∧ rr = some (.int (nI (rsum M0 0 ord P))) ∧ h = mk M' T) := by
  refine R_go 3 (pc' := 3) (L' := [some (.ref 42), some (.ref 4), none, none, none, none]) (st' := [.int 0, .ref 4, .ref 42]) (h' := mk M T) (fun _ => rfl) ?_
  refine R_callE (i := .invokevirtual 84) (kd := 0) (y := M_X3_walk) (as := [.ref 42, .ref 4, .int 0]) (r := []) (L0 := [some (.ref 42), some (.ref 4), some (.int 0), none, none, none, none, none, none, none]) (v := fun M2 => some (.int (nI (rsum M0 0 ord P)))) (h' := fun M2 => mk M2 T) (pc' := 6) (st' := fun M2 => [.int (nI (rsum M0 0 ord P))]) rfl rfl rfl rfl rfl rfl (c_walk (B := 0) h0 hf hP0 h8 ho h42 hm) (fun M2 x1 => ?_)
  have xw := x1
  refine R_go 3 (pc' := 9) (L' := [some (.ref 42), some (.ref 4), some (.int (nI (rsum M0 0 ord P))), some (.int 0), none, none]) (st' := []) (h' := mk M2 T) (fun _ => rfl) ?_
  obtain ⟨xa, xb, xc, xd⟩ := xw
  have hwvb : ∀ j, j < P → M2 44 j = nI (wkV M0 0 ord P j) ∧ wkV M0 0 ord P j ≤ 9999 := fun j hj => ⟨by rw [xd]; exact (wkV_p (hsu j hj)).2 _, (wkV_p (hsu j hj)).1⟩
  have e1 : M2 1 = M 1 := xc 1 (by omega) (by omega) (by omega) (by omega) (by omega)
  have e11 : M2 11 = M 11 := xc 11 (by omega) (by omega) (by omega) (by omega) (by omega)
  refine (lp_readTo (M := M) (T := T) (d := d) h0 hP0 h8 hwvb (sm := rsum M0 0 ord P) (nt := nt) (by rw [e1]; exact hnt) P 0 none none M2 (Nat.zero_add P) xa xb ⟨fun _ _ _ _ _ _ _ => rfl, fun _ _ => rfl⟩ (fun j hj => by rw [e11, hpu j hj]; exact (rel_pc h0).1 j hj) (by rw [e1, hch]; exact (rel_pc h0).2)).imp (fun _ _ q => ?_)
  obtain ⟨M', ⟨q1, q2, q3, q4, q5, q6, q7⟩, q8, q9⟩ := q
  exact ⟨M', ⟨q1, q2, fun c a1 a2 a3 a4 a5 a6 a7 => (q3 c a1 a2 a3 a4 a5 a6).trans (xc c a3 a4 a5 a6 a7), fun j a b => (q4 j a b).trans (by rw [e1]), q5, q6, q7⟩, q8, q9⟩
def xRM (M M' : xM) : Prop := (∀ c, c ≠ 62 → c ≠ 70 → c ≠ 71 → M' c = M c) ∧ ∀ j, j ≠ 4 → ¬ (66 ≤ j ∧ j ≤ 71) → M' 62 j = M 62 j
theorem cap_m (x : Nat) : (if x < 0 then 0 else if 99999 < x then 99999 else x) = capN x := by
  unfold capN
  split
  · omega
  · split <;> split <;> omega
set_option maxRecDepth 100000 in
set_option maxHeartbeats 4000000 in
theorem lp_reads {ro : xRO} {d : Nat} {M : xM} {T : Nat}  {M0 Mb : xM} (h0 : Rel M0) {P : Nat} (hP0 : M0 62 6 = nI P) (h8 : P ≤ 8) {wv : Nat → Nat} (hwvb : ∀ j, j < P → Mb 73 j = nI (wv j) ∧ wv j ≤ 9999) {sm nt : Nat} (hnt : Mb 62 3 = nI nt) : ∀ (k : Nat) (i : Nat) (w1 w2 : Option Value) (M : xM), i + k = P → FM M0 M → xRM Mb M → (∀ j, j < 6 → M 62 (66 + j) = nI (puT M0 wv i j)) → M 62 4 = nI (chT M0 wv i) →  Rn ro (d + 7) M_X8_reads 7 [some (.ref 64), some (.int (nI sm)), some (.int (nI i)), w1, w2] [] (mk M T) (fun rr h => ∃ M', (FM M0 M' ∧ (∀ c, c ≠ 62 → c ≠ 70 → c ≠ 71 → M' c = Mb c) ∧ (∀ j, j ≠ 3 → j ≠ 4 → ¬ (66 ≤ j ∧ j ≤ 71) → M' 62 j = Mb 62 j) ∧ (∀ j, j < 6 → M' 62 (66 + j) = nI (puT M0 wv P j)) ∧ M' 62 4 = nI (chT M0 wv P) ∧ M' 62 3 = nI (nt + 1)) ∧ rr = some (.int (nI sm)) ∧ h = mk M' T) := by
  intro k
  induction k with
  | zero =>
    intro i w1 w2 M hi hf hx hpu hch
    have hP := fm_P hf hP0
    have fn := fm_now h0 hf
    have hwv : ∀ j, j < P → M 73 j = nI (wv j) ∧ wv j ≤ 9999 := fun j hj => ⟨(congrFun (hx.1 73 (by omega) (by omega) (by omega)) j).trans (hwvb j hj).1, (hwvb j hj).2⟩
    have hntM : M 62 3 = nI nt := (hx.2 3 (by omega) (by omega)).trans hnt
    obtain rfl : i = P := by omega
    refine R_go 5 (pc' := 15) (L' := [some (.ref 64), some (.int (nI sm)), some (.int (nI i)), w1, w2]) (st' := [.int (M 62 6), .int (nI i)]) (h' := mk M T) (fun _ => rfl) ?_
    refine R_top (y := nI i) (hP) ?_
    refine R_if 1 (c := (nI i) ≤ (nI i)) (t := 105) (f := 18) (L' := [some (.ref 64), some (.int (nI sm)), some (.int (nI i)), w1, w2]) (st' := []) (h' := mk M T) (fun _ => rfl) (fun g1 => ?_) (fun g1 => ?_)
    · replace g1 : i ≤ i := (nI_leI (a := i) (b := i) (by omega) (by omega)).mp g1
      refine R_go 5 (pc' := 112) (L' := [some (.ref 64), some (.int (nI sm)), some (.int (nI i)), w1, w2]) (st' := [.int (M 62 3), .int 3, .ref 65]) (h' := mk M T) (fun _ => rfl) ?_
      refine R_top (y := nI nt) (hntM) ?_
      refine R_go 2 (pc' := 114) (L' := [some (.ref 64), some (.int (nI sm)), some (.int (nI i)), w1, w2]) (st' := [.int (nI nt + 1), .int 3, .ref 65]) (h' := mk M T) (fun _ => rfl) ?_
      refine R_top (nI_add nt 1) ?_
      refine R_ret 3 (pcr := 116) (v := some (.int (nI sm))) (h' := mk (up M 62 3 (nI (nt + 1))) T) (fun _ => rfl) ?_
      refine ⟨up M 62 3 (nI (nt + 1)), ⟨fun j a b c => (up_nj a 62).trans (hf j a b c), fun c a1 a2 a3 => (up_ne a1).trans (hx.1 c a1 a2 a3), fun j a b c => (up_nj a 62).trans (hx.2 j b c), fun j hj => (up_nj (by omega) 62).trans (hpu j hj), (up_nj (by omega) 62).trans hch, up_at⟩, rfl, rfl⟩
    · replace g1 : ¬ i ≤ i := fun q => g1 ((nI_leI (a := i) (b := i) (by omega) (by omega)).mpr q)
      omega
  | succ k ih =>
    intro i w1 w2 M hi hf hx hpu hch
    have hP := fm_P hf hP0
    have fn := fm_now h0 hf
    have hwv : ∀ j, j < P → M 73 j = nI (wv j) ∧ wv j ≤ 9999 := fun j hj => ⟨(congrFun (hx.1 73 (by omega) (by omega) (by omega)) j).trans (hwvb j hj).1, (hwvb j hj).2⟩
    have hntM : M 62 3 = nI nt := (hx.2 3 (by omega) (by omega)).trans hnt
    have fp := fm_pane h0 hf (p := i) (by omega)
    have s16 := strN_16 h0 (p := i) (by omega)
    have ch9 := chT_le h0 (wv := wv) i
    have pu9 := puT_le h0 (wv := wv) i (heN M0 i) (by omega)
    have ml9 := (vlN_in M0 i (strN (kdN M0 i) (mqN M0 i) (clN M0 i) (cdN M0) (lpN M0))).2
    have ml9 : mlV M0 i ≤ 9999 := ml9
    have wv9 := (hwv i (by omega)).2
    refine R_go 5 (pc' := 15) (L' := [some (.ref 64), some (.int (nI sm)), some (.int (nI i)), w1, w2]) (st' := [.int (M 62 6), .int (nI i)]) (h' := mk M T) (fun _ => rfl) ?_
    refine R_top (y := nI P) (hP) ?_
    refine R_if 1 (c := (nI P) ≤ (nI i)) (t := 105) (f := 18) (L' := [some (.ref 64), some (.int (nI sm)), some (.int (nI i)), w1, w2]) (st' := []) (h' := mk M T) (fun _ => rfl) (fun g1 => ?_) (fun g1 => ?_)
    · replace g1 : P ≤ i := (nI_leI (a := P) (b := i) (by omega) (by omega)).mp g1
      omega
    · replace g1 : ¬ P ≤ i := fun q => g1 ((nI_leI (a := P) (b := i) (by omega) (by omega)).mpr q)
      refine R_go 4 (pc' := 23) (L' := [some (.ref 64), some (.int (nI sm)), some (.int (nI i)), w1, w2]) (st' := [.int 5, .int (nI i), .ref 64, .int 66]) (h' := mk M T) (fun _ => rfl) ?_
      refine R_callD (i := .invokevirtual 57) (kd := 0) (y := M_X8_of) (as := [.ref 64, .int (nI i), .int 5]) (r := [.int 66]) (L0 := [some (.ref 64), some (.int (nI i)), some (.int 5)]) (v := some (.int (M 62 (10 + 7 * i + 5)))) (h' := mk M T) (pc' := 26) (st' := [.int (M 62 (10 + 7 * i + 5)), .int 66]) rfl rfl rfl rfl rfl rfl (m_of (p := i) (j := 5) (by omega) (by omega)) ?_
      refine R_top (y := nI (heN M0 i)) (fp.2.2.1) ?_
      refine R_go 1 (pc' := 27) (L' := [some (.ref 64), some (.int (nI sm)), some (.int (nI i)), w1, w2]) (st' := [.int (66 + nI (heN M0 i))]) (h' := mk M T) (fun _ => rfl) ?_
      refine R_top (nI_add 66 (heN M0 i)) ?_
      refine R_go 5 (pc' := 32) (L' := [some (.ref 64), some (.int (nI sm)), some (.int (nI i)), some (.int (nI (66 + (heN M0 i)))), w2]) (st' := [.int (nI i), .ref 64, .int (nI i), .ref 64]) (h' := mk M T) (fun _ => rfl) ?_
      refine R_callD (i := .invokevirtual 73) (kd := 0) (y := M_X8_strokesOf) (as := [.ref 64, .int (nI i)]) (r := [.int (nI i), .ref 64]) (L0 := [some (.ref 64), some (.int (nI i)), none, none, none, none]) (v := some (.int (nI (strN (kdN M0 i) (mqN M0 i) (clN M0 i) (cdN M0) (lpN M0))))) (h' := mk M T) (pc' := 35) (st' := [.int (nI (strN (kdN M0 i) (mqN M0 i) (clN M0 i) (cdN M0) (lpN M0))), .int (nI i), .ref 64]) rfl rfl rfl rfl rfl rfl (m_strokesOf (p := i) (by omega) fp.1 fn.1 fn.2.1 (by omega) (by omega)) ?_
      refine R_callE (i := .invokevirtual 162) (kd := 0) (y := M_X8_valueOf) (as := [.ref 64, .int (nI i), .int (nI (strN (kdN M0 i) (mqN M0 i) (clN M0 i) (cdN M0) (lpN M0)))]) (r := []) (L0 := [some (.ref 64), some (.int (nI i)), some (.int (nI (strN (kdN M0 i) (mqN M0 i) (clN M0 i) (cdN M0) (lpN M0))))]) (v := fun M1 => some (.int (nI (mlV M0 i)))) (h' := fun M1 => mk M1 T) (pc' := 38) (st' := fun M1 => [.int (nI (mlV M0 i))]) rfl rfl rfl rfl rfl rfl ((m_valueOf (p := i) (r := strN (kdN M0 i) (mqN M0 i) (clN M0 i) (cdN M0) (lpN M0)) h0 hf (by omega))) (fun M1 g2 => ?_)
      have vx := g2
      refine R_go 3 (pc' := 43) (L' := [some (.ref 64), some (.int (nI sm)), some (.int (nI i)), some (.int (nI (66 + (heN M0 i)))), w2]) (st' := [.int (nI i), .ref 76, .int (nI (mlV M0 i))]) (h' := mk M1 T) (fun _ => rfl) ?_
      refine R_iald (c := 73) (n := 8) (j := i) rfl rfl (by omega) (by decide) ?_
      refine R_top (y := nI (wv i)) ((congrFun (vx 73 (by omega) (by omega)) i).trans (hwv i (by omega)).1) ?_
      refine R_go 8 (pc' := 57) (L' := [some (.ref 64), some (.int (nI sm)), some (.int (nI i)), some (.int (nI (66 + (heN M0 i)))), some (.int ((nI (mlV M0 i)) - (nI (wv i))))]) (st' := [.int (nI (66 + (heN M0 i))), .ref 65, .int (nI (66 + (heN M0 i))), .ref 65]) (h' := mk M1 T) (fun _ => rfl) ?_
      refine R_iald (c := 62) (n := 398) (j := 66 + (heN M0 i)) rfl rfl (by omega) (by decide) ?_
      refine R_top (y := nI (puT M0 wv i (heN M0 i))) ((congrFun (vx 62 (by omega) (by omega)) _).trans (hpu _ (by omega))) ?_
      refine R_go 3 (pc' := 63) (L' := [some (.ref 64), some (.int (nI sm)), some (.int (nI i)), some (.int (nI (66 + (heN M0 i)))), some (.int ((nI (mlV M0 i)) - (nI (wv i))))]) (st' := [.int (nI i), .ref 76, .int (nI (puT M0 wv i (heN M0 i))), .int (nI (66 + (heN M0 i))), .ref 65]) (h' := mk M1 T) (fun _ => rfl) ?_
      refine R_iald (c := 73) (n := 8) (j := i) rfl rfl (by omega) (by decide) ?_
      refine R_top (y := nI (wv i)) ((congrFun (vx 73 (by omega) (by omega)) i).trans (hwv i (by omega)).1) ?_
      refine R_go 1 (pc' := 65) (L' := [some (.ref 64), some (.int (nI sm)), some (.int (nI i)), some (.int (nI (66 + (heN M0 i)))), some (.int ((nI (mlV M0 i)) - (nI (wv i))))]) (st' := [.int (nI (puT M0 wv i (heN M0 i)) + nI (wv i)), .int (nI (66 + (heN M0 i))), .ref 65]) (h' := mk M1 T) (fun _ => rfl) ?_
      refine R_top (nI_add (puT M0 wv i (heN M0 i)) (wv i)) ?_
      refine R_go 2 (pc' := 68) (L' := [some (.ref 64), some (.int (nI sm)), some (.int (nI i)), some (.int (nI (66 + (heN M0 i)))), some (.int ((nI (mlV M0 i)) - (nI (wv i))))]) (st' := [.int 99999, .int 0, .int (nI ((puT M0 wv i (heN M0 i)) + (wv i))), .int (nI (66 + (heN M0 i))), .ref 65]) (h' := mk M1 T) (fun _ => rfl) ?_
      refine R_callD (i := .invokestatic 61) (kd := 1) (y := M_X8_held) (as := [.int (nI ((puT M0 wv i (heN M0 i)) + (wv i))), .int 0, .int 99999]) (r := [.int (nI (66 + (heN M0 i))), .ref 65]) (L0 := [some (.int (nI ((puT M0 wv i (heN M0 i)) + (wv i)))), some (.int 0), some (.int 99999)]) (v := some (.int (heldY (nI ((puT M0 wv i (heN M0 i)) + (wv i))) 0 99999))) (h' := mk M1 T) (pc' := 71) (st' := [.int (heldY (nI ((puT M0 wv i (heN M0 i)) + (wv i))) 0 99999), .int (nI (66 + (heN M0 i))), .ref 65]) rfl rfl rfl rfl rfl rfl (m_held) ?_
      refine R_top (heldY_nI (v := (puT M0 wv i (heN M0 i)) + (wv i)) (a := 0) (b := 99999) (by omega) (by omega) (by omega)) ?_
      refine R_iast (c := 62) (n := 398) (j := 66 + (heN M0 i)) rfl rfl (by omega) (by decide) ?_
      refine R_go 7 (pc' := 83) (L' := [some (.ref 64), some (.int (nI sm)), some (.int (nI i)), some (.int (nI (66 + (heN M0 i)))), some (.int ((nI (mlV M0 i)) - (nI (wv i))))]) (st' := [.int ((up M1 62 (66 + (heN M0 i)) (nI (if ((puT M0 wv i (heN M0 i)) + (wv i)) < 0 then 0 else if 99999 < ((puT M0 wv i (heN M0 i)) + (wv i)) then 99999 else ((puT M0 wv i (heN M0 i)) + (wv i))))) 62 4), .int 4, .ref 65]) (h' := mk (up M1 62 (66 + (heN M0 i)) (nI (if ((puT M0 wv i (heN M0 i)) + (wv i)) < 0 then 0 else if 99999 < ((puT M0 wv i (heN M0 i)) + (wv i)) then 99999 else ((puT M0 wv i (heN M0 i)) + (wv i))))) T) (fun _ => rfl) ?_
      refine R_top (y := nI (chT M0 wv i)) ((up_nj (by omega) 62).trans ((congrFun (vx 62 (by omega) (by omega)) 4).trans hch)) ?_
      refine R_go 3 (pc' := 88) (L' := [some (.ref 64), some (.int (nI sm)), some (.int (nI i)), some (.int (nI (66 + (heN M0 i)))), some (.int ((nI (mlV M0 i)) - (nI (wv i))))]) (st' := [.int 99999, .int 0, .int ((nI (mlV M0 i)) - (nI (wv i))), .int (nI (chT M0 wv i)), .int 4, .ref 65]) (h' := mk (up M1 62 (66 + (heN M0 i)) (nI (if ((puT M0 wv i (heN M0 i)) + (wv i)) < 0 then 0 else if 99999 < ((puT M0 wv i (heN M0 i)) + (wv i)) then 99999 else ((puT M0 wv i (heN M0 i)) + (wv i))))) T) (fun _ => rfl) ?_
      refine R_callD (i := .invokestatic 61) (kd := 1) (y := M_X8_held) (as := [.int ((nI (mlV M0 i)) - (nI (wv i))), .int 0, .int 99999]) (r := [.int (nI (chT M0 wv i)), .int 4, .ref 65]) (L0 := [some (.int ((nI (mlV M0 i)) - (nI (wv i)))), some (.int 0), some (.int 99999)]) (v := some (.int (heldY ((nI (mlV M0 i)) - (nI (wv i))) 0 99999))) (h' := mk (up M1 62 (66 + (heN M0 i)) (nI (if ((puT M0 wv i (heN M0 i)) + (wv i)) < 0 then 0 else if 99999 < ((puT M0 wv i (heN M0 i)) + (wv i)) then 99999 else ((puT M0 wv i (heN M0 i)) + (wv i))))) T) (pc' := 91) (st' := [.int (heldY ((nI (mlV M0 i)) - (nI (wv i))) 0 99999), .int (nI (chT M0 wv i)), .int 4, .ref 65]) rfl rfl rfl rfl rfl rfl (m_held) ?_
      refine R_top (heldY_sub (a := mlV M0 i) (b := wv i) (c := 99999) (by omega) (by omega) (by omega)) ?_
      refine R_go 1 (pc' := 92) (L' := [some (.ref 64), some (.int (nI sm)), some (.int (nI i)), some (.int (nI (66 + (heN M0 i)))), some (.int ((nI (mlV M0 i)) - (nI (wv i))))]) (st' := [.int (nI (chT M0 wv i) + nI ((mlV M0 i) - (wv i))), .int 4, .ref 65]) (h' := mk (up M1 62 (66 + (heN M0 i)) (nI (if ((puT M0 wv i (heN M0 i)) + (wv i)) < 0 then 0 else if 99999 < ((puT M0 wv i (heN M0 i)) + (wv i)) then 99999 else ((puT M0 wv i (heN M0 i)) + (wv i))))) T) (fun _ => rfl) ?_
      refine R_top (nI_add (chT M0 wv i) ((mlV M0 i) - (wv i))) ?_
      refine R_go 2 (pc' := 95) (L' := [some (.ref 64), some (.int (nI sm)), some (.int (nI i)), some (.int (nI (66 + (heN M0 i)))), some (.int ((nI (mlV M0 i)) - (nI (wv i))))]) (st' := [.int 99999, .int 0, .int (nI ((chT M0 wv i) + ((mlV M0 i) - (wv i)))), .int 4, .ref 65]) (h' := mk (up M1 62 (66 + (heN M0 i)) (nI (if ((puT M0 wv i (heN M0 i)) + (wv i)) < 0 then 0 else if 99999 < ((puT M0 wv i (heN M0 i)) + (wv i)) then 99999 else ((puT M0 wv i (heN M0 i)) + (wv i))))) T) (fun _ => rfl) ?_
      refine R_callD (i := .invokestatic 61) (kd := 1) (y := M_X8_held) (as := [.int (nI ((chT M0 wv i) + ((mlV M0 i) - (wv i)))), .int 0, .int 99999]) (r := [.int 4, .ref 65]) (L0 := [some (.int (nI ((chT M0 wv i) + ((mlV M0 i) - (wv i))))), some (.int 0), some (.int 99999)]) (v := some (.int (heldY (nI ((chT M0 wv i) + ((mlV M0 i) - (wv i)))) 0 99999))) (h' := mk (up M1 62 (66 + (heN M0 i)) (nI (if ((puT M0 wv i (heN M0 i)) + (wv i)) < 0 then 0 else if 99999 < ((puT M0 wv i (heN M0 i)) + (wv i)) then 99999 else ((puT M0 wv i (heN M0 i)) + (wv i))))) T) (pc' := 98) (st' := [.int (heldY (nI ((chT M0 wv i) + ((mlV M0 i) - (wv i)))) 0 99999), .int 4, .ref 65]) rfl rfl rfl rfl rfl rfl (m_held) ?_
      refine R_top (heldY_nI (v := (chT M0 wv i) + ((mlV M0 i) - (wv i))) (a := 0) (b := 99999) (by omega) (by omega) (by omega)) ?_
      refine R_go 2 (pc' := 102) (L' := [some (.ref 64), some (.int (nI sm)), some (.int ((nI i) + 1)), some (.int (nI (66 + (heN M0 i)))), some (.int ((nI (mlV M0 i)) - (nI (wv i))))]) (st' := []) (h' := mk (up (up M1 62 (66 + (heN M0 i)) (nI (if ((puT M0 wv i (heN M0 i)) + (wv i)) < 0 then 0 else if 99999 < ((puT M0 wv i (heN M0 i)) + (wv i)) then 99999 else ((puT M0 wv i (heN M0 i)) + (wv i))))) 62 4 (nI (if ((chT M0 wv i) + ((mlV M0 i) - (wv i))) < 0 then 0 else if 99999 < ((chT M0 wv i) + ((mlV M0 i) - (wv i))) then 99999 else ((chT M0 wv i) + ((mlV M0 i) - (wv i)))))) T) (fun _ => rfl) ?_
      rw [nI_1]
      refine R_go 1 (pc' := 7) (L' := [some (.ref 64), some (.int (nI sm)), some (.int (nI (i + 1))), some (.int (nI (66 + (heN M0 i)))), some (.int ((nI (mlV M0 i)) - (nI (wv i))))]) (st' := []) (h' := mk (up (up M1 62 (66 + (heN M0 i)) (nI (if ((puT M0 wv i (heN M0 i)) + (wv i)) < 0 then 0 else if 99999 < ((puT M0 wv i (heN M0 i)) + (wv i)) then 99999 else ((puT M0 wv i (heN M0 i)) + (wv i))))) 62 4 (nI (if ((chT M0 wv i) + ((mlV M0 i) - (wv i))) < 0 then 0 else if 99999 < ((chT M0 wv i) + ((mlV M0 i) - (wv i))) then 99999 else ((chT M0 wv i) + ((mlV M0 i) - (wv i)))))) T) (fun _ => rfl) ?_
      rw [cap_m, cap_m]
      refine ih (i + 1) _ _ _ (by omega) ?_ ?_ ?_ up_at
      · intro j a b c
        rw [up_nj b, up_nj (by omega), vx 62 (by omega) (by omega)]
        exact hf j a b c
      · refine ⟨fun c a1 a2 a3 => (up_ne a1).trans ((up_ne a1).trans ((vx c a2 a3).trans (hx.1 c a1 a2 a3))), fun j a b => ?_⟩
        rw [up_nj a, up_nj (by omega), vx 62 (by omega) (by omega)]
        exact hx.2 j a b
      · intro j hj
        rw [up_nj (by omega), up_rd, vx 62 (by omega) (by omega)]
        show _ = nI (if j = heN M0 i then capN (puT M0 wv i j + wv i) else puT M0 wv i j)
        by_cases q : j = heN M0 i
        · rw [if_pos ⟨rfl, by omega⟩, if_pos q, q]
        · rw [if_neg (by omega), if_neg q]
          exact hpu j hj
set_option maxRecDepth 100000 in
set_option maxHeartbeats 4000000 in
theorem m_reads {ro : xRO} {d : Nat} {M : xM} {T : Nat} {M0 : xM} (h0 : Rel M0) (hf : FM M0 M) {P : Nat} (hP0 : M0 62 6 = nI P) (h8 : P ≤ 8) {ord : Nat → Nat} (ho : ∀ i, i < P → ord i < P) (h72 : ∀ i, i < P → M 72 i = nI (ord i)) (hB : M 61 7 = 0) (hsu : ∀ j, j < P → ∃ i, i < P ∧ ord i = j) (hpu : ∀ j, j < 6 → M 62 (66 + j) = M0 62 (66 + j)) (hch : M 62 4 = M0 62 4) {nt : Nat} (hnt : M 62 3 = nI nt) : Rn ro (d + 7) M_X8_reads 0 [some (.ref 64), none, none, none, none] [] (mk M T) (fun rr h => ∃ M', (FM M0 M' ∧ (∀ c, c ≠ 62 → c ≠ 70 → c ≠ 71 → c ≠ 73 → M' c = M c) ∧ (∀ j, j ≠ 3 → j ≠ 4 → ¬ (66 ≤ j ∧ j ≤ 71) → M' 62 j = M 62 j) ∧ (∀ j, j < 6 → M' 62 (66 + j) = nI (puT M0 (wkV M0 0 ord P) P j)) ∧ M' 62 4 = nI (chT M0 (wkV M0 0 ord P) P) ∧ M' 62 3 = nI (nt + 1)) ∧ rr = some (.int (nI (rsum M0 0 ord P))) ∧ h = mk M' T) := by
  refine R_go 1 (pc' := 1) (L' := [some (.ref 64), none, none, none, none]) (st' := [.ref 64]) (h' := mk M T) (fun _ => rfl) ?_
  refine R_callE (i := .invokevirtual 174) (kd := 0) (y := M_X8_roundOf) (as := [.ref 64]) (r := []) (L0 := [some (.ref 64), none, none, none, none, none]) (v := fun M2 => some (.int (nI (rsum M0 0 ord P)))) (h' := fun M2 => mk M2 T) (pc' := 4) (st' := fun M2 => [.int (nI (rsum M0 0 ord P))]) rfl rfl rfl rfl rfl rfl (m_roundOf (B := 0) h0 hf hP0 h8 ho h72 hB) (fun M2 x1 => ?_)
  have xw := x1
  refine R_go 3 (pc' := 7) (L' := [some (.ref 64), some (.int (nI (rsum M0 0 ord P))), some (.int 0), none, none]) (st' := []) (h' := mk M2 T) (fun _ => rfl) ?_
  obtain ⟨xa, xc, xd⟩ := xw
  have hwvb : ∀ j, j < P → M2 73 j = nI (wkV M0 0 ord P j) ∧ wkV M0 0 ord P j ≤ 9999 := fun j hj => ⟨by rw [xd]; exact (wkV_p (hsu j hj)).2 _, (wkV_p (hsu j hj)).1⟩
  have e62 : M2 62 = M 62 := xc 62 (by omega) (by omega) (by omega)
  refine (lp_reads (M := M) (T := T) (d := d) h0 hP0 h8 hwvb (sm := rsum M0 0 ord P) (nt := nt) (by rw [e62]; exact hnt) P 0 none none M2 (Nat.zero_add P) xa ⟨fun _ _ _ _ => rfl, fun _ _ _ => rfl⟩ (fun j hj => by rw [e62, hpu j hj]; exact (rel_pc h0).1 j hj) (by rw [e62, hch]; exact (rel_pc h0).2)).imp (fun _ _ q => ?_)
  obtain ⟨M', ⟨q1, q3, q4, q5, q6, q7⟩, q8, q9⟩ := q
  exact ⟨M', ⟨q1, fun c a1 a2 a3 a4 => (q3 c a1 a2 a3).trans (xc c a2 a3 a4), fun j a b c => (q4 j a b c).trans (by rw [e62]), q5, q6, q7⟩, q8, q9⟩
