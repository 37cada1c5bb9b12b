/-! OPERATION loose -/
def tnM (M : xM) (c : Nat) : Nat → xM
  | 0 => M
  | n + 1 => up (tnM M c n) c n (nI n)
theorem tnM_rd {M : xM} {c a b : Nat} : ∀ {n : Nat}, tnM M c n a b = if a = c ∧ b < n then nI b else M a b := by
  intro n
  induction n with
  | zero => rw [if_neg (by omega)]; rfl
  | succ n ih =>
    show up (tnM M c n) c n (nI n) a b = _
    rw [up_rd, ih]
    grind
set_option maxRecDepth 100000 in
set_option maxHeartbeats 4000000 in
theorem lp_takeN {ro : xRO} {d : Nat} {M : xM} {T : Nat}   : ∀ (k : Nat) (i : Nat), i + k = 8 →  Rn ro (d) M_X3_takeNumbers 2 [some (.ref 42), some (.int (nI i))] [] (mk (tnM M 42 i) T) (fun r h => r = none ∧ h = mk (tnM M 42 8) T) := by
  intro k
  induction k with
  | zero =>
    intro i hi
    obtain rfl : i = 8 := by omega
    refine R_ret 6 (pcr := 24) (v := none) (h' := mk (tnM M 42 8) T) (fun _ => rfl) ?_
    exact ⟨rfl, rfl⟩
  | succ k ih =>
    intro i hi
    refine R_if 5 (c := 8 ≤ (nI i)) (t := 24) (f := 11) (L' := [some (.ref 42), some (.int (nI i))]) (st' := []) (h' := mk (tnM M 42 i) T) (fun _ => rfl) (fun g1 => ?_) (fun g1 => ?_)
    · replace g1 : 8 ≤ i := (nI_leI (a := 8) (b := i) (by omega) (by omega)).mp g1
      omega
    · replace g1 : ¬ 8 ≤ i := fun q => g1 ((nI_leI (a := 8) (b := i) (by omega) (by omega)).mpr q)
      refine R_go 4 (pc' := 17) (L' := [some (.ref 42), some (.int (nI i))]) (st' := [.int (nI i), .int (nI i), .ref 45]) (h' := mk (tnM M 42 i) T) (fun _ => rfl) ?_
      refine R_iast (c := 42) (n := 8) (j := i) rfl rfl (by omega) (by decide) ?_
      refine R_go 1 (pc' := 21) (L' := [some (.ref 42), some (.int ((nI i) + 1))]) (st' := []) (h' := mk (up (tnM M 42 i) 42 i (nI i)) T) (fun _ => rfl) ?_
      rw [nI_1]
      refine R_go 1 (pc' := 2) (L' := [some (.ref 42), some (.int (nI (i + 1)))]) (st' := []) (h' := mk (up (tnM M 42 i) 42 i (nI i)) T) (fun _ => rfl) ?_
      exact ih (i + 1) (by omega)
set_option maxRecDepth 100000 in
set_option maxHeartbeats 4000000 in
theorem c_takeN {ro : xRO} {d : Nat} {M : xM} {T : Nat}  : Rn ro d M_X3_takeNumbers 0 [some (.ref 42), none] [] (mk M T) (fun r h => ∃ M', ((∀ c, c ≠ 42 → M' c = M c) ∧ ∀ j, j < 8 → M' 42 j = nI j) ∧ r = none ∧ h = mk M' T) := by
  refine R_go 2 (pc' := 2) (L' := [some (.ref 42), some (.int 0)]) (st' := []) (h' := mk M T) (fun _ => rfl) ?_
  refine (lp_takeN 8 0 rfl).imp (fun _ _ q => ⟨tnM M 42 8, ⟨fun c hc => ?_, fun j hj => ?_⟩, q.1, q.2⟩)
  · funext b; rw [tnM_rd, if_neg (fun z => hc z.1)]
  · rw [tnM_rd, if_pos ⟨rfl, hj⟩]
set_option maxRecDepth 100000 in
set_option maxHeartbeats 4000000 in
theorem lp_bynN {ro : xRO} {d : Nat} {M : xM} {T : Nat}   : ∀ (k : Nat) (i : Nat), i + k = 8 →  Rn ro (d) M_X8_byNumbers 2 [some (.ref 64), some (.int (nI i))] [] (mk (tnM M 72 i) T) (fun r h => r = none ∧ h = mk (tnM M 72 8) T) := by
  intro k
  induction k with
  | zero =>
    intro i hi
    obtain rfl : i = 8 := by omega
    refine R_ret 4 (pcr := 21) (v := none) (h' := mk (tnM M 72 8) T) (fun _ => rfl) ?_
    exact ⟨rfl, rfl⟩
  | succ k ih =>
    intro i hi
    refine R_if 3 (c := 8 ≤ (nI i)) (t := 21) (f := 8) (L' := [some (.ref 64), some (.int (nI i))]) (st' := []) (h' := mk (tnM M 72 i) T) (fun _ => rfl) (fun g1 => ?_) (fun g1 => ?_)
    · replace g1 : 8 ≤ i := (nI_leI (a := 8) (b := i) (by omega) (by omega)).mp g1
      omega
    · replace g1 : ¬ 8 ≤ i := fun q => g1 ((nI_leI (a := 8) (b := i) (by omega) (by omega)).mpr q)
      refine R_go 4 (pc' := 14) (L' := [some (.ref 64), some (.int (nI i))]) (st' := [.int (nI i), .int (nI i), .ref 75]) (h' := mk (tnM M 72 i) T) (fun _ => rfl) ?_
      refine R_iast (c := 72) (n := 8) (j := i) rfl rfl (by omega) (by decide) ?_
      refine R_go 1 (pc' := 18) (L' := [some (.ref 64), some (.int ((nI i) + 1))]) (st' := []) (h' := mk (up (tnM M 72 i) 72 i (nI i)) T) (fun _ => rfl) ?_
      rw [nI_1]
      refine R_go 1 (pc' := 2) (L' := [some (.ref 64), some (.int (nI (i + 1)))]) (st' := []) (h' := mk (up (tnM M 72 i) 72 i (nI i)) T) (fun _ => rfl) ?_
      exact ih (i + 1) (by omega)
set_option maxRecDepth 100000 in
set_option maxHeartbeats 4000000 in
theorem c_bynN {ro : xRO} {d : Nat} {M : xM} {T : Nat}  : Rn ro d M_X8_byNumbers 0 [some (.ref 64), none] [] (mk M T) (fun r h => ∃ M', ((∀ c, c ≠ 72 → M' c = M c) ∧ ∀ j, j < 8 → M' 72 j = nI j) ∧ r = none ∧ h = mk M' T) := by
  refine R_go 2 (pc' := 2) (L' := [some (.ref 64), some (.int 0)]) (st' := []) (h' := mk M T) (fun _ => rfl) ?_
  refine (lp_bynN 8 0 rfl).imp (fun _ _ q => ⟨tnM M 72 8, ⟨fun c hc => ?_, fun j hj => ?_⟩, q.1, q.2⟩)
  · funext b; rw [tnM_rd, if_neg (fun z => hc z.1)]
  · rw [tnM_rd, if_pos ⟨rfl, hj⟩]
theorem dr_nj {V : xM} {j : Nat} (h0 : j ≠ 0) (h2 : j ≠ 2) (h5 : j ≠ 5) : drV V 62 j = V 62 j := by
  unfold drV
  rw [up_nj h2, up_nj h0, up_nj h5, up_ne (by omega), up_ne (by omega), up_ne (by omega)]
theorem mx_1 {M V : xM} (h : M 1 = V 1) {a1 a2 : Nat} {z1 z2 : Int32} (ha1 : a1 = dz (V 1 15)) (hz1 : z1 = zz (V 1 15)) (ha2 : a2 = dz z1) (hz2 : z2 = zz z1) : (up (up (up (up M 1 15 z1) 1 11 (nI (a1 % 41))) 1 15 z2) 1 13 (nI (a2 % 2))) 1 = drV V 1 := by
  funext j
  have := congrFun h j
  rw [ha1, ha2, hz2, hz1]
  unfold drV
  simp only [up_rd]
  grind
theorem mx_62 {M V : xM} (h : M 62 = V 62) (hz : V 1 15 = V 62 5) {a1 a2 : Nat} {z1 z2 : Int32} (ha1 : a1 = dz (V 62 5)) (hz1 : z1 = zz (V 62 5)) (ha2 : a2 = dz z1) (hz2 : z2 = zz z1) : (up (up (up (up M 62 5 z1) 62 0 (nI (a1 % 41))) 62 5 z2) 62 2 (nI (a2 % 2))) 62 = drV V 62 := by
  funext j
  have := congrFun h j
  rw [ha1, ha2, hz2, hz1]
  unfold drV
  rw [hz]
  simp only [up_rd]
  grind
theorem n_62 {V : xM} {P : Nat} : ∀ j, 10 ≤ j → ¬ (66 ≤ j ∧ j ≤ 71) → nV V P 62 j = V 62 j := by
  intro j a b
  unfold nV
  rw [if_neg (by omega), if_neg (by omega), if_neg (by omega), if_neg (by omega), if_neg (by omega), if_neg (by omega)]
theorem nights_ok {V0 : xM} (h : Rel V0) {P nt n : Nat} (pm : V0 62 6 = nI P) (h8 : P ≤ 8) (hnt : V0 62 3 = nI nt) (hn : nt + n ≤ 9999) : ∀ i, i ≤ n → Rel (nights V0 P i) ∧ nights V0 P i 62 6 = nI P ∧ nights V0 P i 62 3 = nI (nt + i) ∧ ∀ c, c ≠ 1 → c ≠ 11 → c ≠ 62 → nights V0 P i c = V0 c := by
  intro i
  induction i with
  | zero => intro _; exact ⟨h, pm, hnt, fun _ _ _ _ => rfl⟩
  | succ i ih =>
    intro hi
    obtain ⟨a1, a2, a3, a4⟩ := ih (by omega)
    have d3 : drV (nights V0 P i) 62 3 = nI (nt + i) := (dr_nj (by omega) (by omega) (by omega)).trans a3
    refine ⟨nV_rel a1.draw ((dr_nj (by omega) (by omega) (by omega)).trans a2) h8 d3 (by omega), ?_, ?_, fun c c1 c2 c3 => (n_ne c1 c3 c2).trans ((dr_ne c1 c3).trans (a4 c c1 c2 c3))⟩
    · show nV (drV (nights V0 P i)) P 62 6 = _
      unfold nV
      rw [if_neg (by omega), if_neg (by omega), if_neg (by omega), if_neg (by omega), if_neg (by omega), if_neg (by omega), dr_nj (by omega) (by omega) (by omega)]
      exact a2
    · show nV (drV (nights V0 P i)) P 62 3 = _
      unfold nV
      rw [if_neg (by omega), if_neg (by omega), if_neg (by omega), if_neg (by omega), if_pos ⟨rfl, rfl⟩, d3, nI_1]
      rfl
/-- the class stands after nights as V says -/
def LX (V Mb M : xM) : Prop := (∀ c, 2 ≤ c → c ≤ 18 → c ≠ 11 → c ≠ 16 → M c = V c) ∧ M 1 = V 1 ∧ (∀ j, j < 6 → M 11 j = V 11 j) ∧ Memo V M ∧ (∀ j, j < 8 → M 42 j = nI j) ∧ ∀ c, c ≠ 1 → c ≠ 11 → c ≠ 16 → c ≠ 19 → c ≠ 40 → c ≠ 41 → c ≠ 44 → M c = Mb c
def LM (V Mb M : xM) : Prop := M 62 = V 62 ∧ (∀ j, j < 8 → M 72 j = nI j) ∧ M 61 7 = 0 ∧ ∀ c, c ≠ 62 → c ≠ 70 → c ≠ 71 → c ≠ 73 → M c = Mb c
theorem c_drawY {ro : xRO} {d : Nat} {M : xM} {T : Nat} {z w : Int32} {a : Nat} (hz : M 1 15 = z) (ha : a = dz z) (hw : w = zz z) : Rn ro d M_X0_draw 0 [some (.ref 4)] [] (mk M T) (fun r h => r = some (.int (nI a)) ∧ h = mk (up M 1 15 w) T) := by
  rw [ha, hw]
  exact c_drawZ hz
theorem m_drawY {ro : xRO} {d : Nat} {M : xM} {T : Nat} {z w : Int32} {a : Nat} (hz : M 62 5 = z) (ha : a = dz z) (hw : w = zz z) : Rn ro d M_X8_draw 0 [some (.ref 64)] [] (mk M T) (fun r h => r = some (.int (nI a)) ∧ h = mk (up M 62 5 w) T) := by
  rw [ha, hw]
  exact m_drawZ hz
set_option maxRecDepth 100000 in
set_option maxHeartbeats 4000000 in
theorem lo_night {ro : xRO} {d : Nat} {M : xM} {T : Nat} {Q : Option Value → xH → Prop} {V Mb : xM} (hV : Rel V) {P nt n i : Nat} (pm : V 62 6 = nI P) (h8 : P ≤ 8) (hnt : V 62 3 = nI nt) (n30 : n ≤ 30) (hi : i < n) (hx : LX V Mb M) {a1 a2 : Nat} {z1 z2 : Int32} (ha1 : a1 = dz (V 1 15)) (hz1 : z1 = zz (V 1 15)) (ha2 : a2 = dz z1) (hz2 : z2 = zz z1) (k1 : ∀ M', LX (nV (drV V) P) Mb M' → Rn ro (d + 90) M_X7_loose 53 [some (.ref 3), some (.int (nI n)), some (.int (nI (i + 1)))] [] (mk M' T) Q) : Rn ro (d + 90) M_X7_loose 53 [some (.ref 3), some (.int (nI n)), some (.int (nI i))] [] (mk M T) Q := by
  have d1 : a1 < 2 ^ 24 := by rw [ha1]; exact dz_lt _
  have d2 : a2 < 2 ^ 24 := by rw [ha2]; exact dz_lt _
  refine R_if 3 (c := (nI n) ≤ (nI i)) (t := 109) (f := 58) (L' := [some (.ref 3), some (.int (nI n)), some (.int (nI i))]) (st' := []) (h' := mk M T) (fun _ => rfl) (fun g1 => ?_) (fun g1 => ?_)
  · replace g1 : n ≤ i := (nI_leI (a := n) (b := i) (by omega) (by omega)).mp g1
    omega
  · replace g1 : ¬ n ≤ i := fun q => g1 ((nI_leI (a := n) (b := i) (by omega) (by omega)).mpr q)
    refine R_go 4 (pc' := 66) (L' := [some (.ref 3), some (.int (nI n)), some (.int (nI i))]) (st' := [.ref 4, .ref 4]) (h' := mk M T) (fun _ => rfl) ?_
    refine R_callD (i := .invokevirtual 204) (kd := 0) (y := M_X0_draw) (as := [.ref 4]) (r := [.ref 4]) (L0 := [some (.ref 4)]) (v := some (.int (nI a1))) (h' := mk (up M 1 15 z1) T) (pc' := 69) (st' := [.int (nI a1), .ref 4]) rfl rfl rfl rfl rfl rfl (c_drawY (congrFun hx.2.1 15) ha1 hz1) ?_
    refine R_go 2 (pc' := 72) (L' := [some (.ref 3), some (.int (nI n)), some (.int (nI i))]) (st' := [.int ((nI a1) - (nI a1) / 41 * 41), .ref 4]) (h' := mk (up M 1 15 z1) T) (fun _ => rfl) ?_
    refine R_top (pk_rem (a := a1) (d := 41) (by omega) (by omega) (by omega)) ?_
    refine R_go 5 (pc' := 83) (L' := [some (.ref 3), some (.int (nI n)), some (.int (nI i))]) (st' := [.ref 4, .ref 4]) (h' := mk (up (up M 1 15 z1) 1 11 (nI (a1 % 41))) T) (fun _ => rfl) ?_
    refine R_callD (i := .invokevirtual 204) (kd := 0) (y := M_X0_draw) (as := [.ref 4]) (r := [.ref 4]) (L0 := [some (.ref 4)]) (v := some (.int (nI a2))) (h' := mk (up (up (up M 1 15 z1) 1 11 (nI (a1 % 41))) 1 15 z2) T) (pc' := 86) (st' := [.int (nI a2), .ref 4]) rfl rfl rfl rfl rfl rfl (c_drawY (z := z1) ((up_nj (by omega) 1).trans up_at) ha2 hz2) ?_
    refine R_go 2 (pc' := 88) (L' := [some (.ref 3), some (.int (nI n)), some (.int (nI i))]) (st' := [.int ((nI a2) - (nI a2) / 2 * 2), .ref 4]) (h' := mk (up (up (up M 1 15 z1) 1 11 (nI (a1 % 41))) 1 15 z2) T) (fun _ => rfl) ?_
    refine R_top (pk_rem (a := a2) (d := 2) (by omega) (by omega) (by omega)) ?_
    refine R_go 5 (pc' := 99) (L' := [some (.ref 3), some (.int (nI n)), some (.int (nI i))]) (st' := [.ref 4, .ref 42]) (h' := mk (up (up (up (up M 1 15 z1) 1 11 (nI (a1 % 41))) 1 15 z2) 1 13 (nI (a2 % 2))) T) (fun _ => rfl) ?_
    refine R_callE (i := .invokevirtual 198) (kd := 0) (y := M_X3_readTo) (as := [.ref 42, .ref 4]) (r := []) (L0 := [some (.ref 42), some (.ref 4), none, none, none, none]) (v := fun M' => some (.int (nI (rsum (drV V) 0 idN P)))) (h' := fun M' => mk M' T) (pc' := 102) (st' := fun M' => [.int (nI (rsum (drV V) 0 idN P))]) rfl rfl rfl rfl rfl rfl (c_readTo (M := up (up (up (up M 1 15 z1) 1 11 (nI (a1 % 41))) 1 15 z2) 1 13 (nI (a2 % 2))) (M0 := drV V) (ord := idN) hV.draw ⟨fun c a b d e => by rw [up_ne (by omega), up_ne (by omega), up_ne (by omega), up_ne (by omega), dr_ne (by omega) (by omega)]; exact hx.1 c a b d e, fun j _ _ => congrFun (mx_1 hx.2.1 ha1 hz1 ha2 hz2) j⟩ ((dr_nj (by omega) (by omega) (by omega)).trans pm) h8 (fun i hi => hi) (fun j hj => hx.2.2.2.2.1 j (by omega)) ((hx.2.2.2.1.same dr_62).frame rfl rfl) (fun j hj => ⟨j, hj, rfl⟩) (fun j hj => (hx.2.2.1 j hj).trans (((congrFun (dr_ne (by omega) (by omega)) j).symm).trans (hV.draw.1.1.2.2.1 j hj))) ((congrFun (mx_1 hx.2.1 ha1 hz1 ha2 hz2) 10).trans hV.draw.1.1.1.2.2.2.2.1) (nt := nt) ((congrFun (mx_1 hx.2.1 ha1 hz1 ha2 hz2) 14).trans (hV.draw.1.1.1.2.2.2.2.2.2.2.2.1.trans ((dr_nj (by omega) (by omega) (by omega)).trans hnt)))) (fun M' g2 => ?_)
    have xw := g2
    refine R_go 2 (pc' := 106) (L' := [some (.ref 3), some (.int (nI n)), some (.int ((nI i) + 1))]) (st' := []) (h' := mk M' T) (fun _ => rfl) ?_
    rw [nI_1]
    refine R_go 1 (pc' := 53) (L' := [some (.ref 3), some (.int (nI n)), some (.int (nI (i + 1)))]) (st' := []) (h' := mk M' T) (fun _ => rfl) ?_
    obtain ⟨q1, q2, q3, q4, q5, q6, q7⟩ := xw
    refine k1 M' ⟨fun c a b d e => ?_, ?_, fun j hj => ?_, q2.same n_62, fun j hj => ?_, fun c a1 a2 a3 a4 a5 a6 a7 => ?_⟩
    · rw [n_ne (by omega) (by omega) d]; exact q1.1 c a b d e
    · funext j
      unfold nV
      by_cases j10 : j = 10
      · rw [if_pos ⟨rfl, j10⟩, j10]; exact q6
      · rw [if_neg (fun z => j10 z.2)]
        by_cases j14 : j = 14
        · rw [if_pos ⟨rfl, j14⟩, j14, q7, show drV V 1 14 = nI nt from hV.draw.1.1.1.2.2.2.2.2.2.2.2.1.trans ((dr_nj (by omega) (by omega) (by omega)).trans hnt), nI_1]
        · rw [if_neg (fun z => j14 z.2), if_neg (by omega), if_neg (by omega), if_neg (by omega), if_neg (by omega)]
          exact q1.2 j j10 j14
    · unfold nV
      rw [if_neg (by omega), if_neg (by omega), if_pos ⟨rfl, hj⟩]
      exact q5 j hj
    · rw [q3 42 (by omega) (by omega) (by omega) (by omega) (by omega) (by omega) (by omega), up_ne (by omega), up_ne (by omega), up_ne (by omega), up_ne (by omega)]
      exact hx.2.2.2.2.1 j hj
    · rw [q3 c a1 a2 a3 a4 a5 a6 a7, up_ne a1, up_ne a1, up_ne a1, up_ne a1]
      exact hx.2.2.2.2.2 c a1 a2 a3 a4 a5 a6 a7
set_option maxRecDepth 100000 in
set_option maxHeartbeats 4000000 in
theorem lm_night {ro : xRO} {d : Nat} {M : xM} {T : Nat} {Q : Option Value → xH → Prop} {V Mb : xM} (hV : Rel V) {P nt n i : Nat} (pm : V 62 6 = nI P) (h8 : P ≤ 8) (hnt : V 62 3 = nI nt) (n30 : n ≤ 30) (hi : i < n) (hx : LM V Mb M) {a1 a2 : Nat} {z1 z2 : Int32} (ha1 : a1 = dz (V 62 5)) (hz1 : z1 = zz (V 62 5)) (ha2 : a2 = dz z1) (hz2 : z2 = zz z1) (k1 : ∀ M', LM (nV (drV V) P) Mb M' → Rn ro (d + 90) M_X8_loose 44 [some (.ref 64), some (.int (nI n)), some (.int (nI (i + 1)))] [] (mk M' T) Q) : Rn ro (d + 90) M_X8_loose 44 [some (.ref 64), some (.int (nI n)), some (.int (nI i))] [] (mk M T) Q := by
  have d1 : a1 < 2 ^ 24 := by rw [ha1]; exact dz_lt _
  have d2 : a2 < 2 ^ 24 := by rw [ha2]; exact dz_lt _
  refine R_if 3 (c := (nI n) ≤ (nI i)) (t := 85) (f := 49) (L' := [some (.ref 64), some (.int (nI n)), some (.int (nI i))]) (st' := []) (h' := mk M T) (fun _ => rfl) (fun g1 => ?_) (fun g1 => ?_)
  · replace g1 : n ≤ i := (nI_leI (a := n) (b := i) (by omega) (by omega)).mp g1
    omega
  · replace g1 : ¬ n ≤ i := fun q => g1 ((nI_leI (a := n) (b := i) (by omega) (by omega)).mpr q)
    refine R_go 4 (pc' := 55) (L' := [some (.ref 64), some (.int (nI n)), some (.int (nI i))]) (st' := [.ref 64, .int 0, .ref 65]) (h' := mk M T) (fun _ => rfl) ?_
    refine R_callD (i := .invokevirtual 187) (kd := 0) (y := M_X8_draw) (as := [.ref 64]) (r := [.int 0, .ref 65]) (L0 := [some (.ref 64)]) (v := some (.int (nI a1))) (h' := mk (up M 62 5 z1) T) (pc' := 58) (st' := [.int (nI a1), .int 0, .ref 65]) rfl rfl rfl rfl rfl rfl (m_drawY (congrFun hx.1 5) ha1 hz1) ?_
    refine R_go 2 (pc' := 61) (L' := [some (.ref 64), some (.int (nI n)), some (.int (nI i))]) (st' := [.int ((nI a1) - (nI a1) / 41 * 41), .int 0, .ref 65]) (h' := mk (up M 62 5 z1) T) (fun _ => rfl) ?_
    refine R_top (pk_rem (a := a1) (d := 41) (by omega) (by omega) (by omega)) ?_
    refine R_go 5 (pc' := 68) (L' := [some (.ref 64), some (.int (nI n)), some (.int (nI i))]) (st' := [.ref 64, .int 2, .ref 65]) (h' := mk (up (up M 62 5 z1) 62 0 (nI (a1 % 41))) T) (fun _ => rfl) ?_
    refine R_callD (i := .invokevirtual 187) (kd := 0) (y := M_X8_draw) (as := [.ref 64]) (r := [.int 2, .ref 65]) (L0 := [some (.ref 64)]) (v := some (.int (nI a2))) (h' := mk (up (up (up M 62 5 z1) 62 0 (nI (a1 % 41))) 62 5 z2) T) (pc' := 71) (st' := [.int (nI a2), .int 2, .ref 65]) rfl rfl rfl rfl rfl rfl (m_drawY (z := z1) ((up_nj (by omega) 62).trans up_at) ha2 hz2) ?_
    refine R_go 2 (pc' := 73) (L' := [some (.ref 64), some (.int (nI n)), some (.int (nI i))]) (st' := [.int ((nI a2) - (nI a2) / 2 * 2), .int 2, .ref 65]) (h' := mk (up (up (up M 62 5 z1) 62 0 (nI (a1 % 41))) 62 5 z2) T) (fun _ => rfl) ?_
    refine R_top (pk_rem (a := a2) (d := 2) (by omega) (by omega) (by omega)) ?_
    refine R_go 2 (pc' := 75) (L' := [some (.ref 64), some (.int (nI n)), some (.int (nI i))]) (st' := [.ref 64]) (h' := mk (up (up (up (up M 62 5 z1) 62 0 (nI (a1 % 41))) 62 5 z2) 62 2 (nI (a2 % 2))) T) (fun _ => rfl) ?_
    refine R_callE (i := .invokevirtual 180) (kd := 0) (y := M_X8_reads) (as := [.ref 64]) (r := []) (L0 := [some (.ref 64), none, none, none, none]) (v := fun M' => some (.int (nI (rsum (drV V) 0 idN P)))) (h' := fun M' => mk M' T) (pc' := 78) (st' := fun M' => [.int (nI (rsum (drV V) 0 idN P))]) rfl rfl rfl rfl rfl rfl (m_reads (M := up (up (up (up M 62 5 z1) 62 0 (nI (a1 % 41))) 62 5 z2) 62 2 (nI (a2 % 2))) (M0 := drV V) (ord := idN) hV.draw (fun j _ _ _ => congrFun (mx_62 hx.1 (hV.1.1.1.2.2.2.2.2.2.2.2.2) ha1 hz1 ha2 hz2) j) ((dr_nj (by omega) (by omega) (by omega)).trans pm) h8 (fun i hi => hi) (fun j hj => hx.2.1 j (by omega)) hx.2.2.1 (fun j hj => ⟨j, hj, rfl⟩) (fun j hj => congrFun (mx_62 hx.1 (hV.1.1.1.2.2.2.2.2.2.2.2.2) ha1 hz1 ha2 hz2) _) (congrFun (mx_62 hx.1 (hV.1.1.1.2.2.2.2.2.2.2.2.2) ha1 hz1 ha2 hz2) 4) (nt := nt) ((congrFun (mx_62 hx.1 (hV.1.1.1.2.2.2.2.2.2.2.2.2) ha1 hz1 ha2 hz2) 3).trans ((dr_nj (by omega) (by omega) (by omega)).trans hnt))) (fun M' g2 => ?_)
    have xw := g2
    refine R_go 2 (pc' := 82) (L' := [some (.ref 64), some (.int (nI n)), some (.int ((nI i) + 1))]) (st' := []) (h' := mk M' T) (fun _ => rfl) ?_
    rw [nI_1]
    refine R_go 1 (pc' := 44) (L' := [some (.ref 64), some (.int (nI n)), some (.int (nI (i + 1)))]) (st' := []) (h' := mk M' T) (fun _ => rfl) ?_
    obtain ⟨q1, q3, q4, q5, q6, q7⟩ := xw
    refine k1 M' ⟨?_, fun j hj => ?_, ?_, fun c a1 a2 a3 a4 => ?_⟩
    · funext j
      unfold nV
      rw [if_neg (by omega), if_neg (by omega), if_neg (by omega)]
      by_cases j4 : j = 4
      · rw [if_pos ⟨rfl, j4⟩, j4]; exact q6
      · rw [if_neg (fun z => j4 z.2)]
        by_cases j3 : j = 3
        · rw [if_pos ⟨rfl, j3⟩, j3, q7, show drV V 62 3 = nI nt from (dr_nj (by omega) (by omega) (by omega)).trans hnt, nI_1]
        · rw [if_neg (fun z => j3 z.2)]
          by_cases j6 : 66 ≤ j ∧ j ≤ 71
          · rw [if_pos ⟨rfl, j6⟩]
            have := q5 (j - 66) (by omega)
            rw [show 66 + (j - 66) = j by omega] at this
            exact this
          · rw [if_neg (fun z => j6 z.2)]
            exact q1 j j3 j4 j6
    · rw [q3 72 (by omega) (by omega) (by omega) (by omega), up_ne (by omega), up_ne (by omega), up_ne (by omega), up_ne (by omega)]
      exact hx.2.1 j hj
    · rw [q3 61 (by omega) (by omega) (by omega) (by omega), up_ne (by omega), up_ne (by omega), up_ne (by omega), up_ne (by omega)]
      exact hx.2.2.1
    · rw [q3 c a1 a2 a3 a4, up_ne a1, up_ne a1, up_ne a1, up_ne a1]
      exact hx.2.2.2 c a1 a2 a3 a4
set_option maxRecDepth 100000 in
set_option maxHeartbeats 4000000 in
theorem lx_end {ro : xRO} {d : Nat} {M : xM} {T : Nat} {Q : Option Value → xH → Prop} {n : Nat} (n30 : n ≤ 30) (k1 : Q (some (.int (M 1 10))) (mk M T)) : Rn ro (d + 90) M_X7_loose 53 [some (.ref 3), some (.int (nI n)), some (.int (nI n))] [] (mk M T) Q := by
  refine R_if 3 (c := (nI n) ≤ (nI n)) (t := 109) (f := 58) (L' := [some (.ref 3), some (.int (nI n)), some (.int (nI n))]) (st' := []) (h' := mk M T) (fun _ => rfl) (fun g1 => ?_) (fun g1 => ?_)
  · replace g1 : n ≤ n := (nI_leI (a := n) (b := n) (by omega) (by omega)).mp g1
    refine R_ret 4 (pcr := 116) (v := some (.int (M 1 10))) (h' := mk M T) (fun _ => rfl) ?_
    exact k1
  · replace g1 : ¬ n ≤ n := fun q => g1 ((nI_leI (a := n) (b := n) (by omega) (by omega)).mpr q)
    omega
theorem lp_x_loose {ro : xRO} {d : Nat} {T : Nat} {V0 Mb : xM} (h0 : Rel V0) {P nt n : Nat} (pm : V0 62 6 = nI P) (h8 : P ≤ 8) (hnt : V0 62 3 = nI nt) (hn : nt + n ≤ 9999) (n30 : n ≤ 30) : ∀ (k i : Nat) (M : xM), i + k = n → LX (nights V0 P i) Mb M → Rn ro (d + 90) M_X7_loose 53 [some (.ref 3), some (.int (nI n)), some (.int (nI i))] [] (mk M T) (fun r h => ∃ M', LX (nights V0 P n) Mb M' ∧ r = some (.int (nights V0 P n 1 10)) ∧ h = mk M' T) := by
  intro k
  induction k with
  | zero =>
    intro i M hi hx
    obtain rfl : i = n := by omega
    exact lx_end n30 ⟨M, hx, by rw [hx.2.1], rfl⟩
  | succ k ih =>
    intro i M hi hx
    obtain ⟨a1, a2, a3, a4⟩ := nights_ok h0 pm h8 hnt hn i (by omega)
    exact lo_night a1 a2 h8 a3 n30 (by omega) hx rfl rfl rfl rfl (fun M' hM' => ih (i + 1) M' (by omega) hM')
set_option maxRecDepth 100000 in
set_option maxHeartbeats 4000000 in
theorem lm_end {ro : xRO} {d : Nat} {M : xM} {T : Nat} {Q : Option Value → xH → Prop} {n : Nat} (n30 : n ≤ 30) (k1 : Q (some (.int (M 62 4))) (mk M T)) : Rn ro (d + 90) M_X8_loose 44 [some (.ref 64), some (.int (nI n)), some (.int (nI n))] [] (mk M T) Q := by
  refine R_if 3 (c := (nI n) ≤ (nI n)) (t := 85) (f := 49) (L' := [some (.ref 64), some (.int (nI n)), some (.int (nI n))]) (st' := []) (h' := mk M T) (fun _ => rfl) (fun g1 => ?_) (fun g1 => ?_)
  · replace g1 : n ≤ n := (nI_leI (a := n) (b := n) (by omega) (by omega)).mp g1
    refine R_ret 5 (pcr := 91) (v := some (.int (M 62 4))) (h' := mk M T) (fun _ => rfl) ?_
    exact k1
  · replace g1 : ¬ n ≤ n := fun q => g1 ((nI_leI (a := n) (b := n) (by omega) (by omega)).mpr q)
    omega
theorem lp_m_loose {ro : xRO} {d : Nat} {T : Nat} {V0 Mb : xM} (h0 : Rel V0) {P nt n : Nat} (pm : V0 62 6 = nI P) (h8 : P ≤ 8) (hnt : V0 62 3 = nI nt) (hn : nt + n ≤ 9999) (n30 : n ≤ 30) : ∀ (k i : Nat) (M : xM), i + k = n → LM (nights V0 P i) Mb M → Rn ro (d + 90) M_X8_loose 44 [some (.ref 64), some (.int (nI n)), some (.int (nI i))] [] (mk M T) (fun r h => ∃ M', LM (nights V0 P n) Mb M' ∧ r = some (.int (nights V0 P n 62 4)) ∧ h = mk M' T) := by
  intro k
  induction k with
  | zero =>
    intro i M hi hx
    obtain rfl : i = n := by omega
    exact lm_end n30 ⟨M, hx, by rw [hx.1], rfl⟩
  | succ k ih =>
    intro i M hi hx
    obtain ⟨a1, a2, a3, a4⟩ := nights_ok h0 pm h8 hnt hn i (by omega)
    exact lm_night a1 a2 h8 a3 n30 (by omega) hx rfl rfl rfl rfl (fun M' hM' => ih (i + 1) M' (by omega) hM')
