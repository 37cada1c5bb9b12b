/-! ROUNDS: readTo, reads -/
theorem wkT_v {M0 : xM} {B : Int32} {ord : Nat → Nat} {h : Nat} : ∀ i j, (∃ i', i' < i ∧ ord i' = j) → ∃ v, v ≤ 9999 ∧ ∀ w0, (wkT M0 B ord w0 h i).2.2 j = nI v := by
  intro i
  induction i with
  | zero => intro j hj; obtain ⟨i', a, -⟩ := hj; exact absurd a (Nat.not_lt_zero i')
  | succ i ih =>
    intro j hj
    by_cases q : j = ord i
    · refine ⟨vlN M0 (ord i) (rdN M0 B (ord i) (wkT M0 B ord (fun _ => 0) h i).1), (vlN_in M0 _ _).2, fun w0 => ?_⟩
      show upd _ (ord i) _ j = _
      unfold upd
      rw [if_pos q, (wkT_w (w0 := w0) (w1 := fun _ => 0) i).1]
    · obtain ⟨i', a1, a2⟩ := hj
      have : i' ≠ i := fun z => q (by rw [← a2, z])
      obtain ⟨v, v1, v2⟩ := ih j ⟨i', by omega, a2⟩
      refine ⟨v, v1, fun w0 => ?_⟩
      show upd _ (ord i) _ j = _
      unfold upd
      rw [if_neg q]
      exact v2 w0
def wkV (M0 : xM) (B : Int32) (ord : Nat → Nat) (P j : Nat) : Nat := ((wkT M0 B ord (fun _ => 0) (hoN M0) P).2.2 j).toNatClampNeg
theorem wkV_p {M0 : xM} {B : Int32} {ord : Nat → Nat} {P j : Nat} (hs : ∃ i', i' < P ∧ ord i' = j) : wkV M0 B ord P j ≤ 9999 ∧ ∀ w0, (wkT M0 B ord w0 (hoN M0) P).2.2 j = nI (wkV M0 B ord P j) := by
  obtain ⟨v, v1, v2⟩ := wkT_v (M0 := M0) (B := B) (h := hoN M0) P j hs
  unfold wkV
  rw [v2, nI_clamp (by omega)]
  exact ⟨v1, v2⟩
def mlV (M0 : xM) (p : Nat) : Nat := vlN M0 p (strN (kdN M0 p) (mqN M0 p) (clN M0 p) (cdN M0) (lpN M0))
def capN (x : Nat) : Nat := if x < 99999 then x else 99999
def chT (M0 : xM) (wv : Nat → Nat) : Nat → Nat
  | 0 => (M0 62 4).toNatClampNeg
  | i + 1 => capN (chT M0 wv i + (mlV M0 i - wv i))
def puT (M0 : xM) (wv : Nat → Nat) : Nat → Nat → Nat
  | 0 => fun h => (M0 62 (66 + h)).toNatClampNeg
  | i + 1 => fun h => if h = heN M0 i then capN (puT M0 wv i h + wv i) else puT M0 wv i h
theorem capN_le (x : Nat) : capN x ≤ 99999 := by unfold capN; split <;> omega
theorem chT_le {M0 : xM} (h : Rel M0) {wv : Nat → Nat} : ∀ i, chT M0 wv i ≤ 99999 := by
  intro i
  cases i with
  | zero =>
    obtain ⟨P, H, h8, h6, pm, hm, px, hx, a, b1, b2, b3, b4, c2, c3, c4, c5⟩ := rel_all h
    exact (iN_c c2.2.2.2.2.2.2 (by omega)).2
  | succ i => exact capN_le _
theorem puT_le {M0 : xM} (h : Rel M0) {wv : Nat → Nat} : ∀ i j, j < 6 → puT M0 wv i j ≤ 99999 := by
  intro i
  induction i with
  | zero =>
    intro j hj
    obtain ⟨P, H, h8, h6, pm, hm, px, hx, a, b1, b2, b3, b4, c2, c3, c4, c5⟩ := rel_all h
    exact (iN_c (c5 j hj).1 (by omega)).2
  | succ i ih =>
    intro j hj
    show (if j = heN M0 i then capN _ else _) ≤ _
    split
    · exact capN_le _
    · exact ih j hj
theorem strN_16 {M0 : xM} (h : Rel M0) {p : Nat} (hp : p < 8) : strN (kdN M0 p) (mqN M0 p) (clN M0 p) (cdN M0) (lpN M0) < 16 := by
  obtain ⟨⟨-, -, -, -, z1, z2, z3, z4⟩, -⟩ := fc_pane h FC_refl hp
  have := strN_le (kd := kdN M0 p) (lamp := lpN M0) z2 z4 (fc_now h FC_refl).2.2.2.1
  omega
def xRX (M M' : xM) : Prop := (∀ c, c ≠ 1 → c ≠ 11 → c ≠ 16 → c ≠ 19 → c ≠ 40 → c ≠ 41 → M' c = M c) ∧ ∀ j, j ≠ 10 → M' 1 j = M 1 j
set_option maxRecDepth 100000 in
set_option maxHeartbeats 4000000 in
theorem lp_readTo {ro : xRO} {d : Nat} {M : xM} {T : Nat}  {M0 Mb : xM} (h0 : Rel M0) {P : Nat} (hP0 : M0 62 6 = nI P) (h8 : P ≤ 8) {wv : Nat → Nat} (hwvb : ∀ j, j < P → Mb 44 j = nI (wv j) ∧ wv j ≤ 9999) {sm nt : Nat} (hnt : Mb 1 14 = nI nt) : ∀ (k : Nat) (i : Nat) (w1 w2 : Option Value) (M : xM), i + k = P → FC M0 M → Memo M0 M → xRX Mb M → (∀ j, j < 6 → M 11 j = nI (puT M0 wv i j)) → M 1 10 = nI (chT M0 wv i) →  Rn ro (d + 7) M_X3_readTo 9 [some (.ref 42), some (.ref 4), some (.int (nI sm)), some (.int (nI i)), w1, w2] [] (mk M T) (fun rr h => ∃ M', (FC M0 M' ∧ Memo M0 M' ∧ (∀ c, c ≠ 1 → c ≠ 11 → c ≠ 16 → c ≠ 19 → c ≠ 40 → c ≠ 41 → M' c = Mb c) ∧ (∀ j, j ≠ 10 → j ≠ 14 → M' 1 j = Mb 1 j) ∧ (∀ j, j < 6 → M' 11 j = nI (puT M0 wv P j)) ∧ M' 1 10 = nI (chT M0 wv P) ∧ M' 1 14 = nI (nt + 1)) ∧ rr = some (.int (nI sm)) ∧ h = mk M' T) := by
  intro k
  induction k with
  | zero =>
    intro i w1 w2 M hi hf hm hx hpu hch
    have hP := fc_P h0 hf hP0
    have fn := fc_now h0 hf
    have hwv : ∀ j, j < P → M 44 j = nI (wv j) ∧ wv j ≤ 9999 := fun j hj => ⟨(congrFun (hx.1 44 (by omega) (by omega) (by omega) (by omega) (by omega) (by omega)) j).trans (hwvb j hj).1, (hwvb j hj).2⟩
    have hntM : M 1 14 = nI nt := (hx.2 14 (by omega)).trans hnt
    obtain rfl : i = P := by omega
    refine R_go 3 (pc' := 14) (L' := [some (.ref 42), some (.ref 4), some (.int (nI sm)), some (.int (nI i)), w1, w2]) (st' := [.int (M 1 6), .int (nI i)]) (h' := mk M T) (fun _ => rfl) ?_
    refine R_top (y := nI i) (hP) ?_
    refine R_if 1 (c := (nI i) ≤ (nI i)) (t := 107) (f := 17) (L' := [some (.ref 42), some (.ref 4), some (.int (nI sm)), some (.int (nI i)), w1, w2]) (st' := []) (h' := mk M T) (fun _ => rfl) (fun g1 => ?_) (fun g1 => ?_)
    · replace g1 : i ≤ i := (nI_leI (a := i) (b := i) (by omega) (by omega)).mp g1
      refine R_go 3 (pc' := 112) (L' := [some (.ref 42), some (.ref 4), some (.int (nI sm)), some (.int (nI i)), w1, w2]) (st' := [.int (M 1 14), .ref 4]) (h' := mk M T) (fun _ => rfl) ?_
      refine R_top (y := nI nt) (hntM) ?_
      refine R_go 2 (pc' := 114) (L' := [some (.ref 42), some (.ref 4), some (.int (nI sm)), some (.int (nI i)), w1, w2]) (st' := [.int (nI nt + 1), .ref 4]) (h' := mk M T) (fun _ => rfl) ?_
      refine R_top (nI_add nt 1) ?_
      refine R_ret 3 (pcr := 118) (v := some (.int (nI sm))) (h' := mk (up M 1 14 (nI (nt + 1))) T) (fun _ => rfl) ?_
      refine ⟨up M 1 14 (nI (nt + 1)), ⟨⟨fun c a b d e => (up_ne (by omega)).trans (hf.1 c a b d e), fun j a b => (up_nj b 1).trans (hf.2 j a b)⟩, hm.frame rfl rfl, fun c a1 a2 a3 a4 a5 a6 => (up_ne a1).trans (hx.1 c a1 a2 a3 a4 a5 a6), fun j a b => (up_nj b 1).trans (hx.2 j a), fun j hj => (congrFun (up_ne (by omega)) j).trans (hpu j hj), (up_nj (by omega) 1).trans hch, up_at⟩, rfl, rfl⟩
    · replace g1 : ¬ i ≤ i := fun q => g1 ((nI_leI (a := i) (b := i) (by omega) (by omega)).mpr q)
      omega
  | succ k ih =>
    intro i w1 w2 M hi hf hm hx hpu hch
    have hP := fc_P h0 hf hP0
    have fn := fc_now h0 hf
    have hwv : ∀ j, j < P → M 44 j = nI (wv j) ∧ wv j ≤ 9999 := fun j hj => ⟨(congrFun (hx.1 44 (by omega) (by omega) (by omega) (by omega) (by omega) (by omega)) j).trans (hwvb j hj).1, (hwvb j hj).2⟩
    have hntM : M 1 14 = nI nt := (hx.2 14 (by omega)).trans hnt
    have fp := fc_pane h0 hf (p := i) (by omega)
    have s16 := strN_16 h0 (p := i) (by omega)
    have ch9 := chT_le h0 (wv := wv) i
    have ml9 := (vlN_in M0 i (strN (kdN M0 i) (mqN M0 i) (clN M0 i) (cdN M0) (lpN M0))).2
    have ml9 : mlV M0 i ≤ 9999 := ml9
    have wv9 := (hwv i (by omega)).2
    refine R_go 3 (pc' := 14) (L' := [some (.ref 42), some (.ref 4), some (.int (nI sm)), some (.int (nI i)), w1, w2]) (st' := [.int (M 1 6), .int (nI i)]) (h' := mk M T) (fun _ => rfl) ?_
    refine R_top (y := nI P) (hP) ?_
    refine R_if 1 (c := (nI P) ≤ (nI i)) (t := 107) (f := 17) (L' := [some (.ref 42), some (.ref 4), some (.int (nI sm)), some (.int (nI i)), w1, w2]) (st' := []) (h' := mk M T) (fun _ => rfl) (fun g1 => ?_) (fun g1 => ?_)
    · replace g1 : P ≤ i := (nI_leI (a := P) (b := i) (by omega) (by omega)).mp g1
      omega
    · replace g1 : ¬ P ≤ i := fun q => g1 ((nI_leI (a := P) (b := i) (by omega) (by omega)).mpr q)
      refine R_if 5 (c := 8 ≤ (nI i)) (t := 107) (f := 26) (L' := [some (.ref 42), some (.ref 4), some (.int (nI sm)), some (.int (nI i)), w1, w2]) (st' := []) (h' := mk M T) (fun _ => rfl) (fun g2 => ?_) (fun g2 => ?_)
      · replace g2 : 8 ≤ i := (nI_leI (a := 8) (b := i) (by omega) (by omega)).mp g2
        omega
      · replace g2 : ¬ 8 ≤ i := fun q => g2 ((nI_leI (a := 8) (b := i) (by omega) (by omega)).mpr q)
        refine R_go 2 (pc' := 28) (L' := [some (.ref 42), some (.ref 4), some (.int (nI sm)), some (.int (nI i)), w1, w2]) (st' := [.int (nI i), .ref 4]) (h' := mk M T) (fun _ => rfl) ?_
        refine R_callD (i := .invokevirtual 37) (kd := 0) (y := M_X0_paneAt) (as := [.ref 4, .int (nI i)]) (r := []) (L0 := [some (.ref 4), some (.int (nI i))]) (v := some (.ref (3 + i + 3))) (h' := mk M T) (pc' := 31) (st' := [.ref (3 + i + 3)]) rfl rfl rfl rfl rfl rfl (c_paneAt_in hP h8 (n := i) (by omega)) ?_
        refine R_go 5 (pc' := 41) (L' := [some (.ref 42), some (.ref 4), some (.int (nI sm)), some (.int (nI i)), some (.ref (3 + i + 3)), w2]) (st' := [.ref (3 + i + 3), .ref 4]) (h' := mk M T) (fun _ => rfl) ?_
        refine R_getI (i := 53) (j := 5) (c := 3 + i) (sh_pane (by omega)) rfl rfl rfl ?_
        refine R_top (y := nI (heN M0 i)) (fp.2.2.1) ?_
        refine R_go 3 (pc' := 49) (L' := [some (.ref 42), some (.ref 4), some (.int (nI sm)), some (.int (nI i)), some (.ref (3 + i + 3)), w2]) (st' := [.int (nI i), .ref 47, .int (nI (heN M0 i)), .ref 4]) (h' := mk M T) (fun _ => rfl) ?_
        refine R_iald (c := 44) (n := 8) (j := i) rfl rfl (by omega) (by decide) ?_
        refine R_top (y := nI (wv i)) ((hwv i (by omega)).1) ?_
        refine R_callD (i := .invokevirtual 113) (kd := 0) (y := M_X0_give) (as := [.ref 4, .int (nI (heN M0 i)), .int (nI (wv i))]) (r := []) (L0 := [some (.ref 4), some (.int (nI (heN M0 i))), some (.int (nI (wv i)))]) (v := none) (h' := mk (up M 11 (heN M0 i) (nI (capN (puT M0 wv i (heN M0 i) + wv i)))) T) (pc' := 53) (st' := []) rfl rfl rfl rfl rfl rfl (c_give (n := heN M0 i) (w := puT M0 wv i (heN M0 i)) (v := wv i) (by omega) (hpu _ (by omega)) (puT_le h0 i _ (by omega)) (hwv i (by omega)).2) ?_
        refine R_go 6 (pc' := 62) (L' := [some (.ref 42), some (.ref 4), some (.int (nI sm)), some (.int (nI i)), some (.ref (3 + i + 3)), w2]) (st' := [.int ((up M 11 (heN M0 i) (nI (capN (puT M0 wv i (heN M0 i) + wv i)))) 1 11), .ref (3 + i + 3), .int (nI i), .ref 4, .ref 42]) (h' := mk (up M 11 (heN M0 i) (nI (capN (puT M0 wv i (heN M0 i) + wv i)))) T) (fun _ => rfl) ?_
        refine R_top (y := nI (cdN M0)) (fn.1) ?_
        refine R_go 2 (pc' := 66) (L' := [some (.ref 42), some (.ref 4), some (.int (nI sm)), some (.int (nI i)), some (.ref (3 + i + 3)), w2]) (st' := [.int ((up M 11 (heN M0 i) (nI (capN (puT M0 wv i (heN M0 i) + wv i)))) 1 13), .int (nI (cdN M0)), .ref (3 + i + 3), .int (nI i), .ref 4, .ref 42]) (h' := mk (up M 11 (heN M0 i) (nI (capN (puT M0 wv i (heN M0 i) + wv i)))) T) (fun _ => rfl) ?_
        refine R_top (y := nI (lpN M0)) (fn.2.1) ?_
        refine R_callD (i := .invokevirtual 117) (kd := 0) (y := M_X1_strokesBy) (as := [.ref (3 + i + 3), .int (nI (cdN M0)), .int (nI (lpN M0))]) (r := [.int (nI i), .ref 4, .ref 42]) (L0 := [some (.ref (3 + i + 3)), some (.int (nI (cdN M0))), some (.int (nI (lpN M0))), none]) (v := some (.int (nI (strN (kdN M0 i) (mqN M0 i) (clN M0 i) (cdN M0) (lpN M0))))) (h' := mk (up M 11 (heN M0 i) (nI (capN (puT M0 wv i (heN M0 i) + wv i)))) T) (pc' := 69) (st' := [.int (nI (strN (kdN M0 i) (mqN M0 i) (clN M0 i) (cdN M0) (lpN M0))), .int (nI i), .ref 4, .ref 42]) rfl rfl rfl rfl (xPre_c (sh_pane (by omega)) rfl rfl rfl rfl) rfl (c_strokesBy (sh_pane (by omega)) (fc_pane h0 (FC_up hf (Or.inl rfl)) (p := i) (by omega)).1 (by omega) (by omega)) ?_
        refine R_callE (i := .invokevirtual 106) (kd := 0) (y := M_X3_valueOf) (as := [.ref 42, .ref 4, .int (nI i), .int (nI (strN (kdN M0 i) (mqN M0 i) (clN M0 i) (cdN M0) (lpN M0)))]) (r := []) (L0 := [some (.ref 42), some (.ref 4), some (.int (nI i)), some (.int (nI (strN (kdN M0 i) (mqN M0 i) (clN M0 i) (cdN M0) (lpN M0)))), none, none]) (v := fun M2 => some (.int (nI (mlV M0 i)))) (h' := fun M2 => mk M2 T) (pc' := 72) (st' := fun M2 => [.int (nI (mlV M0 i))]) rfl rfl rfl rfl rfl rfl ((c_valueOf (M := (up M 11 (heN M0 i) (nI (capN (puT M0 wv i (heN M0 i) + wv i))))) (p := i) (r := strN (kdN M0 i) (mqN M0 i) (clN M0 i) (cdN M0) (lpN M0)) h0 (FC_up hf (Or.inl rfl)) hP h8 (by omega) (by omega) (hm.frame rfl rfl))) (fun M2 g3 => ?_)
        obtain ⟨vx, me⟩ := g3
        refine R_go 3 (pc' := 77) (L' := [some (.ref 42), some (.ref 4), some (.int (nI sm)), some (.int (nI i)), some (.ref (3 + i + 3)), w2]) (st' := [.int (nI i), .ref 47, .int (nI (mlV M0 i))]) (h' := mk M2 T) (fun _ => rfl) ?_
        refine R_iald (c := 44) (n := 8) (j := i) rfl rfl (by omega) (by decide) ?_
        refine R_top (y := nI (wv i)) ((congrFun (vx 44 (by omega) (by omega) (by omega) (by omega)) i).trans (hwv i (by omega)).1) ?_
        refine R_go 6 (pc' := 88) (L' := [some (.ref 42), some (.ref 4), some (.int (nI sm)), some (.int (nI i)), some (.ref (3 + i + 3)), some (.int ((nI (mlV M0 i)) - (nI (wv i))))]) (st' := [.int (M2 1 10), .int 99999, .ref 4]) (h' := mk M2 T) (fun _ => rfl) ?_
        refine R_top (y := nI (chT M0 wv i)) ((congrFun (vx 1 (by omega) (by omega) (by omega) (by omega)) 10).trans hch) ?_
        refine R_go 3 (pc' := 94) (L' := [some (.ref 42), some (.ref 4), some (.int (nI sm)), some (.int (nI i)), some (.ref (3 + i + 3)), some (.int ((nI (mlV M0 i)) - (nI (wv i))))]) (st' := [.int (if 0 < ((nI (mlV M0 i)) - (nI (wv i))) then ((nI (mlV M0 i)) - (nI (wv i))) else 0), .int (nI (chT M0 wv i)), .int 99999, .ref 4]) (h' := mk M2 T) (fun _ => rfl) ?_
        refine R_top (mx_sub (a := mlV M0 i) (b := wv i) (by omega) (by omega)) ?_
        refine R_go 1 (pc' := 95) (L' := [some (.ref 42), some (.ref 4), some (.int (nI sm)), some (.int (nI i)), some (.ref (3 + i + 3)), some (.int ((nI (mlV M0 i)) - (nI (wv i))))]) (st' := [.int (nI (chT M0 wv i) + nI ((mlV M0 i) - (wv i))), .int 99999, .ref 4]) (h' := mk M2 T) (fun _ => rfl) ?_
        refine R_top (nI_add (chT M0 wv i) ((mlV M0 i) - (wv i))) ?_
        refine R_go 1 (pc' := 98) (L' := [some (.ref 42), some (.ref 4), some (.int (nI sm)), some (.int (nI i)), some (.ref (3 + i + 3)), some (.int ((nI (mlV M0 i)) - (nI (wv i))))]) (st' := [.int (if (nI ((chT M0 wv i) + ((mlV M0 i) - (wv i)))) < 99999 then (nI ((chT M0 wv i) + ((mlV M0 i) - (wv i)))) else 99999), .ref 4]) (h' := mk M2 T) (fun _ => rfl) ?_
        refine R_top (mn_nI (a := 99999) (b := (chT M0 wv i) + ((mlV M0 i) - (wv i))) (by omega) (by omega)) ?_
        refine R_go 2 (pc' := 104) (L' := [some (.ref 42), some (.ref 4), some (.int (nI sm)), some (.int ((nI i) + 1)), some (.ref (3 + i + 3)), some (.int ((nI (mlV M0 i)) - (nI (wv i))))]) (st' := []) (h' := mk (up M2 1 10 (nI (if ((chT M0 wv i) + ((mlV M0 i) - (wv i))) < 99999 then ((chT M0 wv i) + ((mlV M0 i) - (wv i))) else 99999))) T) (fun _ => rfl) ?_
        rw [nI_1]
        refine R_go 1 (pc' := 9) (L' := [some (.ref 42), some (.ref 4), some (.int (nI sm)), some (.int (nI (i + 1))), some (.ref (3 + i + 3)), some (.int ((nI (mlV M0 i)) - (nI (wv i))))]) (st' := []) (h' := mk (up M2 1 10 (nI (if ((chT M0 wv i) + ((mlV M0 i) - (wv i))) < 99999 then ((chT M0 wv i) + ((mlV M0 i) - (wv i))) else 99999))) T) (fun _ => rfl) ?_
        refine ih (i + 1) _ _ (up M2 1 10 (nI (capN (chT M0 wv i + (mlV M0 i - wv i))))) (by omega) ?_ (me.frame rfl rfl) ?_ ?_ up_at
        · refine ⟨fun c a b d e => (up_ne (by omega)).trans ((FC_VX (FC_up hf (Or.inl rfl)) vx).1 c a b d e), fun j a b => ?_⟩
          rw [up_nj a]
          exact (FC_VX (FC_up hf (Or.inl rfl)) vx).2 j a b
        · refine ⟨fun c a1 a2 a3 a4 a5 a6 => ((up_ne a1).trans ((vx c a3 a4 a5 a6).trans (up_ne a2))).trans (hx.1 c a1 a2 a3 a4 a5 a6), fun j a => ?_⟩
          rw [up_nj a, vx 1 (by omega) (by omega) (by omega) (by omega), up_ne (by omega)]
          exact hx.2 j a
        · intro j hj
          rw [up_ne (by omega), vx 11 (by omega) (by omega) (by omega) (by omega), up_rd]
          show _ = nI (if j = heN M0 i then capN (puT M0 wv i j + wv i) else puT M0 wv i j)
          by_cases q : j = heN M0 i
          · rw [if_pos ⟨rfl, q⟩, if_pos q, q]
          · rw [if_neg (fun z => q z.2), if_neg q]
            exact hpu j hj
