/-! LOOPS over colds: coldFor, odds -/
def lst (f : Nat → Bool) : Nat → Nat → Nat
  | c, 0 => c
  | c, k + 1 => if f c = true then c else lst f (c + 1) k
def cnt (f : Nat → Bool) : Nat → Nat → Nat
  | _, 0 => 0
  | c, k + 1 => (if f c = true then 1 else 0) + cnt f (c + 1) k
theorem cnt_le (f : Nat → Bool) : ∀ k c, cnt f c k ≤ k := by
  intro k
  induction k with
  | zero => intro c; exact Nat.le_refl 0
  | succ k ih => intro c; have := ih (c + 1); unfold cnt; split <;> omega
theorem lst_le (f : Nat → Bool) : ∀ k c, c ≤ lst f c k ∧ lst f c k ≤ c + k := by
  intro k
  induction k with
  | zero => intro c; exact ⟨Nat.le_refl _, Nat.le_refl _⟩
  | succ k ih => intro c; have := ih (c + 1); unfold lst; split <;> omega
theorem up_up {M : xM} {k j : Nat} {a b : Int32} : up (up M k j a) k j b = up M k j b := by
  funext x y
  simp only [up_rd]
  grind
theorem up_id {M : xM} {k j : Nat} {v : Int32} (h : M k j = v) : up M k j v = M := by
  funext x y
  simp only [up_rd]
  grind
/-- the row's cold may be another -/
def coX (M M' : xM) : Prop := ∃ x, M' = up M 62 0 x
theorem coX_refl {M : xM} : coX M M := ⟨M 62 0, (up_id rfl).symm⟩
theorem coX_up {M M' : xM} {v : Int32} (h : coX M M') : coX M (up M' 62 0 v) := by
  obtain ⟨x, hx⟩ := h
  exact ⟨v, by rw [hx, up_up]⟩
theorem coX_back {M M' : xM} {v : Int32} (h : coX M M') (hv : M 62 0 = v) : up M' 62 0 v = M := by
  obtain ⟨x, hx⟩ := h
  rw [hx, up_up, up_id hv]
theorem coX_rd {M M' : xM} (h : coX M M') {a b : Nat} (q : ¬ (a = 62 ∧ b = 0)) : M' a b = M a b := by
  obtain ⟨x, hx⟩ := h
  rw [hx, up_rd, if_neg q]
theorem coX_rpF {M M' : xM} (h : coX M M') {p kd m fc cl : Nat} (q : rpF M p kd m fc cl) : rpF M' p kd m fc cl := by
  unfold rpF at *
  rw [coX_rd h (by omega), coX_rd h (by omega), coX_rd h (by omega), coX_rd h (by omega)]
  exact q
/-- down from u: the number before it -/
def vD (u : Nat) : Int32 := match u with | 0 => -1 | u + 1 => nI u
theorem vD_pred (u : Nat) : nI u + (-1) = vD u := by
  cases u with
  | zero => rfl
  | succ u =>
    rw [show nI (u + 1) = nI u + 1 from (nI_1 u).symm]
    show nI u + 1 + (-1) = nI u
    grind
set_option maxRecDepth 100000 in
set_option maxHeartbeats 4000000 in
theorem x_coldFor_o {ro : xRO} {d : Nat} {M : xM} {T : Nat} {P : Nat} (hP : M 1 6 = nI P) (h8 : P ≤ 8) {i : Int32} (hi : ¬ (0 ≤ i ∧ i < nI P)) {v : Int32} : Rn ro (d + 90) M_X7_coldFor 0 [some (.ref 3), some (.int i), some (.int v), none, none] [] (mk M T) (fun r h => r = some (.int (-1000000001)) ∧ h = mk (up M 60 1 (M 60 1 + 1)) T) := by
  refine R_go 3 (pc' := 5) (L' := [some (.ref 3), some (.int i), some (.int v), none, none]) (st' := [.int i, .ref 4]) (h' := mk M T) (fun _ => rfl) ?_
  refine R_callD (i := .invokevirtual 116) (kd := 0) (y := M_X0_paneAt) (as := [.ref 4, .int i]) (r := []) (L0 := [some (.ref 4), some (.int i)]) (v := some (.null)) (h' := mk M T) (pc' := 8) (st' := [.null]) rfl rfl rfl rfl rfl rfl (c_paneAt_out hP h8 hi) ?_
  refine R_go 5 (pc' := 25) (L' := [some (.ref 3), some (.int i), some (.int v), some (.null), none]) (st' := [.int 1, .ref 3]) (h' := mk M T) (fun _ => rfl) ?_
  refine R_callD (i := .invokevirtual 75) (kd := 0) (y := M_X7_error) (as := [.ref 3, .int 1]) (r := []) (L0 := [some (.ref 3), some (.int 1)]) (v := some (.int (-1000000001))) (h' := mk (up M 60 1 (M 60 1 + 1)) T) (pc' := 28) (st' := [.int (-1000000001)]) rfl rfl rfl rfl rfl rfl (c_error_1) ?_
  refine R_ret 1 (pcr := 28) (v := some (.int (-1000000001))) (h' := mk (up M 60 1 (M 60 1 + 1)) T) (fun _ => rfl) ?_
  exact ⟨rfl, rfl⟩
set_option maxRecDepth 100000 in
set_option maxHeartbeats 4000000 in
theorem m_coldFor_o {ro : xRO} {d : Nat} {M : xM} {T : Nat} {P : Nat} (hP : M 62 6 = nI P) (h8 : P ≤ 8) {i : Int32} (hi : ¬ (0 ≤ i ∧ i < nI P)) {v : Int32} : Rn ro (d + 90) M_X8_coldFor 0 [some (.ref 64), some (.int i), some (.int v), none, none, none] [] (mk M T) (fun r h => r = some (.int (-1000000001)) ∧ h = mk (up M 64 1 (M 64 1 + 1)) T) := by
  refine R_go 2 (pc' := 2) (L' := [some (.ref 64), some (.int i), some (.int v), none, none, none]) (st' := [.int i, .ref 64]) (h' := mk M T) (fun _ => rfl) ?_
  refine R_call2 (i := .invokevirtual 92) (kd := 0) (y := M_X8_isPane) (as := [.ref 64, .int i]) (r := []) (L0 := [some (.ref 64), some (.int i)]) (v1 := some (.int 1)) (v2 := some (.int 0)) (h1' := mk M T) (h2' := mk M T) (pc' := 5) (st1 := [.int 1]) (st2 := [.int 0]) rfl rfl rfl rfl rfl rfl (m_isPane hP h8) (fun g1 => ?_) (fun g1 => ?_)
  · exact absurd g1 (hi)
  · refine R_go 3 (pc' := 21) (L' := [some (.ref 64), some (.int i), some (.int v), none, none, none]) (st' := [.int (-1000000001), .ref 64]) (h' := mk M T) (fun _ => rfl) ?_
    refine R_callD (i := .invokevirtual 81) (kd := 0) (y := M_X8_error) (as := [.ref 64, .int (-1000000001)]) (r := []) (L0 := [some (.ref 64), some (.int (-1000000001))]) (v := some (.int (-1000000001))) (h' := mk (up M 64 1 (M 64 1 + 1)) T) (pc' := 24) (st' := [.int (-1000000001)]) rfl rfl rfl rfl rfl rfl (m_error_1) ?_
    refine R_ret 1 (pcr := 24) (v := some (.int (-1000000001))) (h' := mk (up M 64 1 (M 64 1 + 1)) T) (fun _ => rfl) ?_
    exact ⟨rfl, rfl⟩
set_option maxRecDepth 100000 in
set_option maxHeartbeats 4000000 in
theorem x_coldFor_b {ro : xRO} {d : Nat} {M : xM} {T : Nat} {P : Nat} (hP : M 1 6 = nI P) (h8 : P ≤ 8) {n : Nat} (hn : n < P) {v : Int32} (hv : ¬ (0 ≤ v ∧ v ≤ 99)) : Rn ro (d + 90) M_X7_coldFor 0 [some (.ref 3), some (.int (nI n)), some (.int v), none, none] [] (mk M T) (fun r h => r = some (.int (-1000000001)) ∧ h = mk (up M 60 1 (M 60 1 + 1)) T) := by
  refine R_go 3 (pc' := 5) (L' := [some (.ref 3), some (.int (nI n)), some (.int v), none, none]) (st' := [.int (nI n), .ref 4]) (h' := mk M T) (fun _ => rfl) ?_
  refine R_callD (i := .invokevirtual 116) (kd := 0) (y := M_X0_paneAt) (as := [.ref 4, .int (nI n)]) (r := []) (L0 := [some (.ref 4), some (.int (nI n))]) (v := some (.ref (3 + n + 3))) (h' := mk M T) (pc' := 8) (st' := [.ref (3 + n + 3)]) rfl rfl rfl rfl rfl rfl (c_paneAt_in hP h8 hn) ?_
  refine R_go 6 (pc' := 17) (L' := [some (.ref 3), some (.int (nI n)), some (.int v), some (.ref (3 + n + 3)), none]) (st' := [.int 99, .int 0, .int v]) (h' := mk M T) (fun _ => rfl) ?_
  refine R_call2 (i := .invokestatic 78) (kd := 1) (y := M_X7_within) (as := [.int v, .int 0, .int 99]) (r := []) (L0 := [some (.int v), some (.int 0), some (.int 99)]) (v1 := some (.int 1)) (v2 := some (.int 0)) (h1' := mk M T) (h2' := mk M T) (pc' := 20) (st1 := [.int 1]) (st2 := [.int 0]) rfl rfl rfl rfl rfl rfl (c_within) (fun g1 => ?_) (fun g1 => ?_)
  · exact absurd g1 (hv)
  · refine R_go 3 (pc' := 25) (L' := [some (.ref 3), some (.int (nI n)), some (.int v), some (.ref (3 + n + 3)), none]) (st' := [.int 1, .ref 3]) (h' := mk M T) (fun _ => rfl) ?_
    refine R_callD (i := .invokevirtual 75) (kd := 0) (y := M_X7_error) (as := [.ref 3, .int 1]) (r := []) (L0 := [some (.ref 3), some (.int 1)]) (v := some (.int (-1000000001))) (h' := mk (up M 60 1 (M 60 1 + 1)) T) (pc' := 28) (st' := [.int (-1000000001)]) rfl rfl rfl rfl rfl rfl (c_error_1) ?_
    refine R_ret 1 (pcr := 28) (v := some (.int (-1000000001))) (h' := mk (up M 60 1 (M 60 1 + 1)) T) (fun _ => rfl) ?_
    exact ⟨rfl, rfl⟩
set_option maxRecDepth 100000 in
set_option maxHeartbeats 4000000 in
theorem m_coldFor_b {ro : xRO} {d : Nat} {M : xM} {T : Nat} {P : Nat} (hP : M 62 6 = nI P) (h8 : P ≤ 8) {n : Nat} (hn : n < P) {v : Int32} (hv : ¬ (0 ≤ v ∧ v ≤ 99)) : Rn ro (d + 90) M_X8_coldFor 0 [some (.ref 64), some (.int (nI n)), some (.int v), none, none, none] [] (mk M T) (fun r h => r = some (.int (-1000000001)) ∧ h = mk (up M 64 1 (M 64 1 + 1)) T) := by
  refine R_go 2 (pc' := 2) (L' := [some (.ref 64), some (.int (nI n)), some (.int v), none, none, none]) (st' := [.int (nI n), .ref 64]) (h' := mk M T) (fun _ => rfl) ?_
  refine R_call2 (i := .invokevirtual 92) (kd := 0) (y := M_X8_isPane) (as := [.ref 64, .int (nI n)]) (r := []) (L0 := [some (.ref 64), some (.int (nI n))]) (v1 := some (.int 1)) (v2 := some (.int 0)) (h1' := mk M T) (h2' := mk M T) (pc' := 5) (st1 := [.int 1]) (st2 := [.int 0]) rfl rfl rfl rfl rfl rfl (m_isPane hP h8) (fun g1 => ?_) (fun g1 => ?_)
  · refine R_go 4 (pc' := 12) (L' := [some (.ref 64), some (.int (nI n)), some (.int v), none, none, none]) (st' := [.int 99, .int 0, .int v]) (h' := mk M T) (fun _ => rfl) ?_
    refine R_call2 (i := .invokestatic 53) (kd := 1) (y := M_X8_in) (as := [.int v, .int 0, .int 99]) (r := []) (L0 := [some (.int v), some (.int 0), some (.int 99)]) (v1 := some (.int 1)) (v2 := some (.int 0)) (h1' := mk M T) (h2' := mk M T) (pc' := 15) (st1 := [.int 1]) (st2 := [.int 0]) rfl rfl rfl rfl rfl rfl (m_in) (fun g2 => ?_) (fun g2 => ?_)
    · exact absurd g2 (hv)
    · refine R_go 3 (pc' := 21) (L' := [some (.ref 64), some (.int (nI n)), some (.int v), none, none, none]) (st' := [.int (-1000000001), .ref 64]) (h' := mk M T) (fun _ => rfl) ?_
      refine R_callD (i := .invokevirtual 81) (kd := 0) (y := M_X8_error) (as := [.ref 64, .int (-1000000001)]) (r := []) (L0 := [some (.ref 64), some (.int (-1000000001))]) (v := some (.int (-1000000001))) (h' := mk (up M 64 1 (M 64 1 + 1)) T) (pc' := 24) (st' := [.int (-1000000001)]) rfl rfl rfl rfl rfl rfl (m_error_1) ?_
      refine R_ret 1 (pcr := 24) (v := some (.int (-1000000001))) (h' := mk (up M 64 1 (M 64 1 + 1)) T) (fun _ => rfl) ?_
      exact ⟨rfl, rfl⟩
  · exact absurd (⟨nI_pos' (by omega), nI_lt hn (by omega)⟩) g1
set_option maxRecDepth 100000 in
set_option maxHeartbeats 4000000 in
theorem lp_x_coldFor {ro : xRO} {d : Nat} {M : xM} {T : Nat} {Q : Option Value → xH → Prop} {n : Nat} (hn : n < 8) {kd m fc cl lamp s : Nat} (hF : paneF M (3 + n) kd m fc cl) (hl : M 1 13 = nI lamp) (l1 : lamp ≤ 1) (hs : s ≤ 99) : ∀ (k : Nat) (c : Nat), c + k = 41 → (lst (fun c => decide (s ≤ strN kd m cl c lamp)) c k < 41 → Rn ro (d + 90) M_X7_coldFor 56 [some (.ref 3), some (.int (nI n)), some (.int (nI s)), some (.ref (3 + n + 3)), some (.int (nI (lst (fun c => decide (s ≤ strN kd m cl c lamp)) c k)))] [] (mk M T) Q) → (lst (fun c => decide (s ≤ strN kd m cl c lamp)) c k = 41 → Rn ro (d + 90) M_X7_coldFor 65 [some (.ref 3), some (.int (nI n)), some (.int (nI s)), some (.ref (3 + n + 3)), some (.int 41)] [] (mk M T) Q) → Rn ro (d + 90) M_X7_coldFor 32 [some (.ref 3), some (.int (nI n)), some (.int (nI s)), some (.ref (3 + n + 3)), some (.int (nI c))] [] (mk M T) Q := by
  intro k
  induction k with
  | zero =>
    intro c hc k1 k2
    obtain rfl : c = 41 := by omega
    refine R_go 3 (pc' := 65) (L' := [some (.ref 3), some (.int (nI n)), some (.int (nI s)), some (.ref (3 + n + 3)), some (.int 41)]) (st' := []) (h' := mk M T) (fun _ => rfl) ?_
    exact k2 (by unfold lst; omega)
  | succ k ih =>
    intro c hc k1 k2
    obtain ⟨-, -, -, -, z1, z2, z3, z4⟩ := id hF
    have q9 := strN_le (kd := kd) (lamp := lamp) z2 z4 (show c ≤ 40 by omega)
    refine R_if 3 (c := 41 ≤ (nI c)) (t := 65) (f := 39) (L' := [some (.ref 3), some (.int (nI n)), some (.int (nI s)), some (.ref (3 + n + 3)), some (.int (nI c))]) (st' := []) (h' := mk M T) (fun _ => rfl) (fun g1 => ?_) (fun g1 => ?_)
    · replace g1 : 41 ≤ c := (nI_leI (a := 41) (b := c) (by omega) (by omega)).mp g1
      omega
    · replace g1 : ¬ 41 ≤ c := fun q => g1 ((nI_leI (a := 41) (b := c) (by omega) (by omega)).mpr q)
      refine R_go 5 (pc' := 49) (L' := [some (.ref 3), some (.int (nI n)), some (.int (nI s)), some (.ref (3 + n + 3)), some (.int (nI c))]) (st' := [.int (M 1 13), .int (nI c), .ref (3 + n + 3)]) (h' := mk M T) (fun _ => rfl) ?_
      refine R_top (y := nI lamp) (hl) ?_
      refine R_callD (i := .invokevirtual 126) (kd := 0) (y := M_X1_strokesBy) (as := [.ref (3 + n + 3), .int (nI c), .int (nI lamp)]) (r := []) (L0 := [some (.ref (3 + n + 3)), some (.int (nI c)), some (.int (nI lamp)), none]) (v := some (.int (nI (strN kd m cl c lamp)))) (h' := mk M T) (pc' := 52) (st' := [.int (nI (strN kd m cl c lamp))]) rfl rfl rfl rfl (xPre_c (sh_pane (by omega)) rfl rfl rfl rfl) rfl (c_strokesBy (sh_pane (by omega)) hF (by omega) l1) ?_
      refine R_if 2 (c := (nI (strN kd m cl c lamp)) < (nI s)) (t := 59) (f := 56) (L' := [some (.ref 3), some (.int (nI n)), some (.int (nI s)), some (.ref (3 + n + 3)), some (.int (nI c))]) (st' := []) (h' := mk M T) (fun _ => rfl) (fun g2 => ?_) (fun g2 => ?_)
      · replace g2 : (strN kd m cl c lamp) < s := (nI_ltI (a := strN kd m cl c lamp) (b := s) (by omega) (by omega)).mp g2
        refine R_go 1 (pc' := 62) (L' := [some (.ref 3), some (.int (nI n)), some (.int (nI s)), some (.ref (3 + n + 3)), some (.int ((nI c) + 1))]) (st' := []) (h' := mk M T) (fun _ => rfl) ?_
        rw [nI_1]
        refine R_go 1 (pc' := 32) (L' := [some (.ref 3), some (.int (nI n)), some (.int (nI s)), some (.ref (3 + n + 3)), some (.int (nI (c + 1)))]) (st' := []) (h' := mk M T) (fun _ => rfl) ?_
        have e : lst (fun c => decide (s ≤ strN kd m cl c lamp)) c (k + 1) = lst (fun c => decide (s ≤ strN kd m cl c lamp)) (c + 1) k := by rw [lst, if_neg (by simp only [decide_eq_true_eq]; omega)]
        rw [e] at k1 k2
        exact ih (c + 1) (by omega) k1 k2
      · replace g2 : ¬ (strN kd m cl c lamp) < s := fun q => g2 ((nI_ltI (a := strN kd m cl c lamp) (b := s) (by omega) (by omega)).mpr q)
        have e : lst (fun c => decide (s ≤ strN kd m cl c lamp)) c (k + 1) = c := by rw [lst, if_pos (by simp only [decide_eq_true_eq]; omega)]
        rw [e] at k1
        exact k1 (by omega)
set_option maxRecDepth 100000 in
set_option maxHeartbeats 4000000 in
theorem x_coldFor_i {ro : xRO} {d : Nat} {M : xM} {T : Nat} {P : Nat} (hP : M 1 6 = nI P) (h8 : P ≤ 8) {n : Nat} (hn : n < P) {kd m fc cl lamp s : Nat} (hF : paneF M (3 + n) kd m fc cl) (hl : M 1 13 = nI lamp) (l1 : lamp ≤ 1) (hs : s ≤ 99) (hX : lst (fun c => decide (s ≤ strN kd m cl c lamp)) 0 41 < 41) : Rn ro (d + 90) M_X7_coldFor 0 [some (.ref 3), some (.int (nI n)), some (.int (nI s)), none, none] [] (mk M T) (fun r h => r = some (.int (nI (lst (fun c => decide (s ≤ strN kd m cl c lamp)) 0 41))) ∧ h = mk M T) := by
  refine R_go 3 (pc' := 5) (L' := [some (.ref 3), some (.int (nI n)), some (.int (nI s)), none, none]) (st' := [.int (nI n), .ref 4]) (h' := mk M T) (fun _ => rfl) ?_
  refine R_callD (i := .invokevirtual 116) (kd := 0) (y := M_X0_paneAt) (as := [.ref 4, .int (nI n)]) (r := []) (L0 := [some (.ref 4), some (.int (nI n))]) (v := some (.ref (3 + n + 3))) (h' := mk M T) (pc' := 8) (st' := [.ref (3 + n + 3)]) rfl rfl rfl rfl rfl rfl (c_paneAt_in hP h8 hn) ?_
  refine R_go 6 (pc' := 17) (L' := [some (.ref 3), some (.int (nI n)), some (.int (nI s)), some (.ref (3 + n + 3)), none]) (st' := [.int 99, .int 0, .int (nI s)]) (h' := mk M T) (fun _ => rfl) ?_
  refine R_call2 (i := .invokestatic 78) (kd := 1) (y := M_X7_within) (as := [.int (nI s), .int 0, .int 99]) (r := []) (L0 := [some (.int (nI s)), some (.int 0), some (.int 99)]) (v1 := some (.int 1)) (v2 := some (.int 0)) (h1' := mk M T) (h2' := mk M T) (pc' := 20) (st1 := [.int 1]) (st2 := [.int 0]) rfl rfl rfl rfl rfl rfl (c_within) (fun g1 => ?_) (fun g1 => ?_)
  · refine R_go 3 (pc' := 32) (L' := [some (.ref 3), some (.int (nI n)), some (.int (nI s)), some (.ref (3 + n + 3)), some (.int 0)]) (st' := []) (h' := mk M T) (fun _ => rfl) ?_
    refine lp_x_coldFor (n := n) (by omega) hF hl l1 hs 41 0 rfl (fun q1 => ?_) (fun q2 => ?_)
    · refine R_ret 2 (pcr := 58) (v := some (.int (nI (lst (fun c => decide (s ≤ strN kd m cl c lamp)) 0 41)))) (h' := mk M T) (fun _ => rfl) ?_
      exact ⟨rfl, rfl⟩
    · refine R_go 2 (pc' := 67) (L' := [some (.ref 3), some (.int (nI n)), some (.int (nI s)), some (.ref (3 + n + 3)), some (.int 41)]) (st' := [.int 2, .ref 3]) (h' := mk M T) (fun _ => rfl) ?_
      refine R_callD (i := .invokevirtual 75) (kd := 0) (y := M_X7_error) (as := [.ref 3, .int 2]) (r := []) (L0 := [some (.ref 3), some (.int 2)]) (v := some (.int (-1000000002))) (h' := mk (up M 60 2 (M 60 2 + 1)) T) (pc' := 70) (st' := [.int (-1000000002)]) rfl rfl rfl rfl rfl rfl (c_error_2) ?_
      refine R_ret 1 (pcr := 70) (v := some (.int (-1000000002))) (h' := mk (up M 60 2 (M 60 2 + 1)) T) (fun _ => rfl) ?_
      omega
  · exact absurd (nI_in2 (a := 0) (b := 99) (by omega) (by omega) (by omega)) g1
set_option maxRecDepth 100000 in
set_option maxHeartbeats 4000000 in
theorem x_coldFor_n {ro : xRO} {d : Nat} {M : xM} {T : Nat} {P : Nat} (hP : M 1 6 = nI P) (h8 : P ≤ 8) {n : Nat} (hn : n < P) {kd m fc cl lamp s : Nat} (hF : paneF M (3 + n) kd m fc cl) (hl : M 1 13 = nI lamp) (l1 : lamp ≤ 1) (hs : s ≤ 99) (hX : lst (fun c => decide (s ≤ strN kd m cl c lamp)) 0 41 = 41) : Rn ro (d + 90) M_X7_coldFor 0 [some (.ref 3), some (.int (nI n)), some (.int (nI s)), none, none] [] (mk M T) (fun r h => r = some (.int (-1000000002)) ∧ h = mk (up M 60 2 (M 60 2 + 1)) T) := by
  refine R_go 3 (pc' := 5) (L' := [some (.ref 3), some (.int (nI n)), some (.int (nI s)), none, none]) (st' := [.int (nI n), .ref 4]) (h' := mk M T) (fun _ => rfl) ?_
  refine R_callD (i := .invokevirtual 116) (kd := 0) (y := M_X0_paneAt) (as := [.ref 4, .int (nI n)]) (r := []) (L0 := [some (.ref 4), some (.int (nI n))]) (v := some (.ref (3 + n + 3))) (h' := mk M T) (pc' := 8) (st' := [.ref (3 + n + 3)]) rfl rfl rfl rfl rfl rfl (c_paneAt_in hP h8 hn) ?_
  refine R_go 6 (pc' := 17) (L' := [some (.ref 3), some (.int (nI n)), some (.int (nI s)), some (.ref (3 + n + 3)), none]) (st' := [.int 99, .int 0, .int (nI s)]) (h' := mk M T) (fun _ => rfl) ?_
  refine R_call2 (i := .invokestatic 78) (kd := 1) (y := M_X7_within) (as := [.int (nI s), .int 0, .int 99]) (r := []) (L0 := [some (.int (nI s)), some (.int 0), some (.int 99)]) (v1 := some (.int 1)) (v2 := some (.int 0)) (h1' := mk M T) (h2' := mk M T) (pc' := 20) (st1 := [.int 1]) (st2 := [.int 0]) rfl rfl rfl rfl rfl rfl (c_within) (fun g1 => ?_) (fun g1 => ?_)
  · refine R_go 3 (pc' := 32) (L' := [some (.ref 3), some (.int (nI n)), some (.int (nI s)), some (.ref (3 + n + 3)), some (.int 0)]) (st' := []) (h' := mk M T) (fun _ => rfl) ?_
    refine lp_x_coldFor (n := n) (by omega) hF hl l1 hs 41 0 rfl (fun q1 => ?_) (fun q2 => ?_)
    · refine R_ret 2 (pcr := 58) (v := some (.int (nI (lst (fun c => decide (s ≤ strN kd m cl c lamp)) 0 41)))) (h' := mk M T) (fun _ => rfl) ?_
      omega
    · refine R_go 2 (pc' := 67) (L' := [some (.ref 3), some (.int (nI n)), some (.int (nI s)), some (.ref (3 + n + 3)), some (.int 41)]) (st' := [.int 2, .ref 3]) (h' := mk M T) (fun _ => rfl) ?_
      refine R_callD (i := .invokevirtual 75) (kd := 0) (y := M_X7_error) (as := [.ref 3, .int 2]) (r := []) (L0 := [some (.ref 3), some (.int 2)]) (v := some (.int (-1000000002))) (h' := mk (up M 60 2 (M 60 2 + 1)) T) (pc' := 70) (st' := [.int (-1000000002)]) rfl rfl rfl rfl rfl rfl (c_error_2) ?_
      refine R_ret 1 (pcr := 70) (v := some (.int (-1000000002))) (h' := mk (up M 60 2 (M 60 2 + 1)) T) (fun _ => rfl) ?_
      exact ⟨rfl, rfl⟩
  · exact absurd (nI_in2 (a := 0) (b := 99) (by omega) (by omega) (by omega)) g1
def lsv (x : Nat) : Int32 := if x < 41 then nI x else -1
theorem lsv_p {x : Nat} (h : x < 41) : lsv x = nI x := if_pos h
theorem lsv_n {x : Nat} (h : x = 41) : lsv x = -1 := if_neg (by omega)
set_option maxRecDepth 100000 in
set_option maxHeartbeats 4000000 in
theorem lp_m_coldFor {ro : xRO} {d : Nat} {M : xM} {T : Nat} {Q : Option Value → xH → Prop} {n : Nat} (hn : n < 8) {kd m fc cl cold lamp s : Nat} (hF : rpF M n kd m fc cl) (hc : M 62 0 = nI cold) (hl : M 62 2 = nI lamp) (c1 : cold ≤ 40) (l1 : lamp ≤ 1) (hs : s ≤ 99) : ∀ (k : Nat) (M' : xM), coX M M' → k ≤ 41 → (∀ M', coX M M' → Rn ro (d + 90) M_X8_coldFor 76 [some (.ref 64), some (.int (nI n)), some (.int (nI s)), some (.int (nI cold)), some (.int (lsv (lst (fun c => decide (s ≤ strN kd m cl c lamp)) 0 41))), some (.int (-1))] [] (mk M' T) Q) → Rn ro (d + 90) M_X8_coldFor 39 [some (.ref 64), some (.int (nI n)), some (.int (nI s)), some (.int (nI cold)), some (.int (lsv (lst (fun c => decide (s ≤ strN kd m cl c lamp)) k (41 - k)))), some (.int (vD k))] [] (mk M' T) Q := by
  intro k
  induction k with
  | zero =>
    intro M' hM hk k1
    refine R_go 2 (pc' := 76) (L' := [some (.ref 64), some (.int (nI n)), some (.int (nI s)), some (.int (nI cold)), some (.int (lsv (lst (fun c => decide (s ≤ strN kd m cl c lamp)) 0 41))), some (.int (-1))]) (st' := []) (h' := mk M' T) (fun _ => rfl) ?_
    exact k1 M' hM
  | succ k ih =>
    intro M' hM hk k1
    obtain ⟨-, -, -, -, z1, z2, z3, z4⟩ := id hF
    have q9 := strN_le (kd := kd) (lamp := lamp) z2 z4 (show k ≤ 40 by omega)
    refine R_if 2 (c := (nI k) < 0) (t := 76) (f := 44) (L' := [some (.ref 64), some (.int (nI n)), some (.int (nI s)), some (.int (nI cold)), some (.int (lsv (lst (fun c => decide (s ≤ strN kd m cl c lamp)) (k + 1) (41 - (k + 1))))), some (.int (nI k))]) (st' := []) (h' := mk M' T) (fun _ => rfl) (fun g1 => ?_) (fun g1 => ?_)
    · replace g1 : k < 0 := (nI_ltI (a := k) (b := 0) (by omega) (by omega)).mp g1
      omega
    · replace g1 : ¬ k < 0 := fun q => g1 ((nI_ltI (a := k) (b := 0) (by omega) (by omega)).mpr q)
      refine R_go 7 (pc' := 54) (L' := [some (.ref 64), some (.int (nI n)), some (.int (nI s)), some (.int (nI cold)), some (.int (lsv (lst (fun c => decide (s ≤ strN kd m cl c lamp)) (k + 1) (41 - (k + 1))))), some (.int (nI k))]) (st' := [.int (nI n), .ref 64]) (h' := mk (up M' 62 0 (nI k)) T) (fun _ => rfl) ?_
      refine R_callD (i := .invokevirtual 73) (kd := 0) (y := M_X8_strokesOf) (as := [.ref 64, .int (nI n)]) (r := []) (L0 := [some (.ref 64), some (.int (nI n)), none, none, none, none]) (v := some (.int (nI (strN kd m cl k lamp)))) (h' := mk (up M' 62 0 (nI k)) T) (pc' := 57) (st' := [.int (nI (strN kd m cl k lamp))]) rfl rfl rfl rfl rfl rfl (m_strokesOf (p := n) (cold := k) (by omega) (coX_rpF (coX_up hM) hF) up_at ((coX_rd (coX_up hM) (by omega)).trans hl) (by omega) l1) ?_
      refine R_if 2 (c := (nI (strN kd m cl k lamp)) < (nI s)) (t := 66) (f := 61) (L' := [some (.ref 64), some (.int (nI n)), some (.int (nI s)), some (.int (nI cold)), some (.int (lsv (lst (fun c => decide (s ≤ strN kd m cl c lamp)) (k + 1) (41 - (k + 1))))), some (.int (nI k))]) (st' := []) (h' := mk (up M' 62 0 (nI k)) T) (fun _ => rfl) (fun g2 => ?_) (fun g2 => ?_)
      · replace g2 : (strN kd m cl k lamp) < s := (nI_ltI (a := strN kd m cl k lamp) (b := s) (by omega) (by omega)).mp g2
        refine R_go 2 (pc' := 70) (L' := [some (.ref 64), some (.int (nI n)), some (.int (nI s)), some (.int (nI cold)), some (.int (lsv (lst (fun c => decide (s ≤ strN kd m cl c lamp)) (k + 1) (41 - (k + 1))))), some (.int (nI k))]) (st' := []) (h' := mk (up M' 62 0 (nI k)) T) (fun _ => rfl) ?_
        refine R_stp (i := .iinc 5 (-1)) (len := 3) (pc' := 73) (L' := [some (.ref 64), some (.int (nI n)), some (.int (nI s)), some (.int (nI cold)), some (.int (lsv (lst (fun c => decide (s ≤ strN kd m cl c lamp)) (k + 1) (41 - (k + 1))))), some (.int ((nI k) + -1))]) (st' := []) (h' := mk (up M' 62 0 (nI k)) T) rfl rfl rfl rfl rfl ?_
        refine R_go 1 (pc' := 39) (L' := [some (.ref 64), some (.int (nI n)), some (.int (nI s)), some (.int (nI cold)), some (.int (lsv (lst (fun c => decide (s ≤ strN kd m cl c lamp)) (k + 1) (41 - (k + 1))))), some (.int ((nI k) + -1))]) (st' := []) (h' := mk (up M' 62 0 (nI k)) T) (fun _ => rfl) ?_
        have e : lst (fun c => decide (s ≤ strN kd m cl c lamp)) k (41 - k) = lst (fun c => decide (s ≤ strN kd m cl c lamp)) (k + 1) (41 - (k + 1)) := by rw [show 41 - k = 41 - (k + 1) + 1 by omega, lst, if_neg (by simp only [decide_eq_true_eq]; omega)]
        rw [vD_pred, ← e]
        exact ih _ (coX_up hM) (by omega) k1
      · replace g2 : ¬ (strN kd m cl k lamp) < s := fun q => g2 ((nI_ltI (a := strN kd m cl k lamp) (b := s) (by omega) (by omega)).mpr q)
        refine R_go 3 (pc' := 70) (L' := [some (.ref 64), some (.int (nI n)), some (.int (nI s)), some (.int (nI cold)), some (.int (nI k)), some (.int (nI k))]) (st' := []) (h' := mk (up M' 62 0 (nI k)) T) (fun _ => rfl) ?_
        refine R_stp (i := .iinc 5 (-1)) (len := 3) (pc' := 73) (L' := [some (.ref 64), some (.int (nI n)), some (.int (nI s)), some (.int (nI cold)), some (.int (nI k)), some (.int ((nI k) + -1))]) (st' := []) (h' := mk (up M' 62 0 (nI k)) T) rfl rfl rfl rfl rfl ?_
        refine R_go 1 (pc' := 39) (L' := [some (.ref 64), some (.int (nI n)), some (.int (nI s)), some (.int (nI cold)), some (.int (nI k)), some (.int ((nI k) + -1))]) (st' := []) (h' := mk (up M' 62 0 (nI k)) T) (fun _ => rfl) ?_
        have e : lst (fun c => decide (s ≤ strN kd m cl c lamp)) k (41 - k) = k := by rw [show 41 - k = 41 - (k + 1) + 1 by omega, lst, if_pos (by simp only [decide_eq_true_eq]; omega)]
        have w := ih (up M' 62 0 (nI k)) (coX_up hM) (by omega) k1
        rw [e, lsv_p (by omega)] at w
        rw [vD_pred]
        exact w
set_option maxRecDepth 100000 in
set_option maxHeartbeats 4000000 in
theorem m_coldFor_i {ro : xRO} {d : Nat} {M : xM} {T : Nat} {P : Nat} (hP : M 62 6 = nI P) (h8 : P ≤ 8) {n : Nat} (hn : n < P) {kd m fc cl cold lamp s : Nat} (hF : rpF M n kd m fc cl) (hc : M 62 0 = nI cold) (hl : M 62 2 = nI lamp) (c1 : cold ≤ 40) (l1 : lamp ≤ 1) (hs : s ≤ 99) (hX : lst (fun c => decide (s ≤ strN kd m cl c lamp)) 0 41 < 41) : Rn ro (d + 90) M_X8_coldFor 0 [some (.ref 64), some (.int (nI n)), some (.int (nI s)), none, none, none] [] (mk M T) (fun r h => r = some (.int (nI (lst (fun c => decide (s ≤ strN kd m cl c lamp)) 0 41))) ∧ h = mk M T) := by
  refine R_go 2 (pc' := 2) (L' := [some (.ref 64), some (.int (nI n)), some (.int (nI s)), none, none, none]) (st' := [.int (nI n), .ref 64]) (h' := mk M T) (fun _ => rfl) ?_
  refine R_call2 (i := .invokevirtual 92) (kd := 0) (y := M_X8_isPane) (as := [.ref 64, .int (nI n)]) (r := []) (L0 := [some (.ref 64), some (.int (nI n))]) (v1 := some (.int 1)) (v2 := some (.int 0)) (h1' := mk M T) (h2' := mk M T) (pc' := 5) (st1 := [.int 1]) (st2 := [.int 0]) rfl rfl rfl rfl rfl rfl (m_isPane hP h8) (fun g1 => ?_) (fun g1 => ?_)
  · refine R_go 4 (pc' := 12) (L' := [some (.ref 64), some (.int (nI n)), some (.int (nI s)), none, none, none]) (st' := [.int 99, .int 0, .int (nI s)]) (h' := mk M T) (fun _ => rfl) ?_
    refine R_call2 (i := .invokestatic 53) (kd := 1) (y := M_X8_in) (as := [.int (nI s), .int 0, .int 99]) (r := []) (L0 := [some (.int (nI s)), some (.int 0), some (.int 99)]) (v1 := some (.int 1)) (v2 := some (.int 0)) (h1' := mk M T) (h2' := mk M T) (pc' := 15) (st1 := [.int 1]) (st2 := [.int 0]) rfl rfl rfl rfl rfl rfl (m_in) (fun g2 => ?_) (fun g2 => ?_)
    · refine R_go 5 (pc' := 31) (L' := [some (.ref 64), some (.int (nI n)), some (.int (nI s)), none, none, none]) (st' := [.int (M 62 0)]) (h' := mk M T) (fun _ => rfl) ?_
      refine R_top (y := nI cold) (hc) ?_
      refine R_go 5 (pc' := 39) (L' := [some (.ref 64), some (.int (nI n)), some (.int (nI s)), some (.int (nI cold)), some (.int (-1)), some (.int 40)]) (st' := []) (h' := mk M T) (fun _ => rfl) ?_
      refine lp_m_coldFor (n := n) (by omega) hF hc hl c1 l1 hs 41 M coX_refl (Nat.le_refl _) (fun M' hM => ?_)
      rw [lsv_p hX]
      refine R_if 7 (c := 0 ≤ (nI (lst (fun c => decide (s ≤ strN kd m cl c lamp)) 0 41))) (t := 97) (f := 88) (L' := [some (.ref 64), some (.int (nI n)), some (.int (nI s)), some (.int (nI cold)), some (.int (nI (lst (fun c => decide (s ≤ strN kd m cl c lamp)) 0 41))), some (.int (-1))]) (st' := []) (h' := mk (up M' 62 0 (nI cold)) T) (fun _ => rfl) (fun g3 => ?_) (fun g3 => ?_)
      · replace g3 : 0 ≤ (lst (fun c => decide (s ≤ strN kd m cl c lamp)) 0 41) := (nI_leI (a := 0) (b := lst (fun c => decide (s ≤ strN kd m cl c lamp)) 0 41) (by omega) (by omega)).mp g3
        refine R_ret 2 (pcr := 99) (v := some (.int (nI (lst (fun c => decide (s ≤ strN kd m cl c lamp)) 0 41)))) (h' := mk (up M' 62 0 (nI cold)) T) (fun _ => rfl) ?_
        exact ⟨rfl, by rw [coX_back hM hc]⟩
      · replace g3 : ¬ 0 ≤ (lst (fun c => decide (s ≤ strN kd m cl c lamp)) 0 41) := fun q => g3 ((nI_leI (a := 0) (b := lst (fun c => decide (s ≤ strN kd m cl c lamp)) 0 41) (by omega) (by omega)).mpr q)
        omega
    · exact absurd (nI_in2 (a := 0) (b := 99) (by omega) (by omega) (by omega)) g2
  · exact absurd (⟨nI_pos' (by omega), nI_lt hn (by omega)⟩) g1
set_option maxRecDepth 100000 in
set_option maxHeartbeats 4000000 in
theorem m_coldFor_n {ro : xRO} {d : Nat} {M : xM} {T : Nat} {P : Nat} (hP : M 62 6 = nI P) (h8 : P ≤ 8) {n : Nat} (hn : n < P) {kd m fc cl cold lamp s : Nat} (hF : rpF M n kd m fc cl) (hc : M 62 0 = nI cold) (hl : M 62 2 = nI lamp) (c1 : cold ≤ 40) (l1 : lamp ≤ 1) (hs : s ≤ 99) (hX : lst (fun c => decide (s ≤ strN kd m cl c lamp)) 0 41 = 41) : Rn ro (d + 90) M_X8_coldFor 0 [some (.ref 64), some (.int (nI n)), some (.int (nI s)), none, none, none] [] (mk M T) (fun r h => r = some (.int (-1000000002)) ∧ h = mk (up M 64 2 (M 64 2 + 1)) T) := by
  refine R_go 2 (pc' := 2) (L' := [some (.ref 64), some (.int (nI n)), some (.int (nI s)), none, none, none]) (st' := [.int (nI n), .ref 64]) (h' := mk M T) (fun _ => rfl) ?_
  refine R_call2 (i := .invokevirtual 92) (kd := 0) (y := M_X8_isPane) (as := [.ref 64, .int (nI n)]) (r := []) (L0 := [some (.ref 64), some (.int (nI n))]) (v1 := some (.int 1)) (v2 := some (.int 0)) (h1' := mk M T) (h2' := mk M T) (pc' := 5) (st1 := [.int 1]) (st2 := [.int 0]) rfl rfl rfl rfl rfl rfl (m_isPane hP h8) (fun g1 => ?_) (fun g1 => ?_)
  · refine R_go 4 (pc' := 12) (L' := [some (.ref 64), some (.int (nI n)), some (.int (nI s)), none, none, none]) (st' := [.int 99, .int 0, .int (nI s)]) (h' := mk M T) (fun _ => rfl) ?_
    refine R_call2 (i := .invokestatic 53) (kd := 1) (y := M_X8_in) (as := [.int (nI s), .int 0, .int 99]) (r := []) (L0 := [some (.int (nI s)), some (.int 0), some (.int 99)]) (v1 := some (.int 1)) (v2 := some (.int 0)) (h1' := mk M T) (h2' := mk M T) (pc' := 15) (st1 := [.int 1]) (st2 := [.int 0]) rfl rfl rfl rfl rfl rfl (m_in) (fun g2 => ?_) (fun g2 => ?_)
    · refine R_go 5 (pc' := 31) (L' := [some (.ref 64), some (.int (nI n)), some (.int (nI s)), none, none, none]) (st' := [.int (M 62 0)]) (h' := mk M T) (fun _ => rfl) ?_
      refine R_top (y := nI cold) (hc) ?_
      refine R_go 5 (pc' := 39) (L' := [some (.ref 64), some (.int (nI n)), some (.int (nI s)), some (.int (nI cold)), some (.int (-1)), some (.int 40)]) (st' := []) (h' := mk M T) (fun _ => rfl) ?_
      refine lp_m_coldFor (n := n) (by omega) hF hc hl c1 l1 hs 41 M coX_refl (Nat.le_refl _) (fun M' hM => ?_)
      rw [lsv_n hX]
      refine R_go 9 (pc' := 91) (L' := [some (.ref 64), some (.int (nI n)), some (.int (nI s)), some (.int (nI cold)), some (.int (-1)), some (.int (-1))]) (st' := [.int (-1000000002), .ref 64]) (h' := mk (up M' 62 0 (nI cold)) T) (fun _ => rfl) ?_
      refine R_callD (i := .invokevirtual 81) (kd := 0) (y := M_X8_error) (as := [.ref 64, .int (-1000000002)]) (r := []) (L0 := [some (.ref 64), some (.int (-1000000002))]) (v := some (.int (-1000000002))) (h' := mk (up (up M' 62 0 (nI cold)) 64 2 ((up M' 62 0 (nI cold)) 64 2 + 1)) T) (pc' := 94) (st' := [.int (-1000000002)]) rfl rfl rfl rfl rfl rfl (m_error_2) ?_
      refine R_ret 2 (pcr := 99) (v := some (.int (-1000000002))) (h' := mk (up (up M' 62 0 (nI cold)) 64 2 ((up M' 62 0 (nI cold)) 64 2 + 1)) T) (fun _ => rfl) ?_
      exact ⟨rfl, by rw [coX_back hM hc]⟩
    · exact absurd (nI_in2 (a := 0) (b := 99) (by omega) (by omega) (by omega)) g2
  · exact absurd (⟨nI_pos' (by omega), nI_lt hn (by omega)⟩) g1
set_option maxHeartbeats 4000000 in
theorem op_coldFor {ro : xRO} {M : xM} {T : Nat} (h : Rel M) {i v : Int32} : OpOK ro M_X7_coldFor M_X8_coldFor [some (.ref 3), some (.int i), some (.int v), none, none] [some (.ref 64), some (.int i), some (.int v), none, none, none] M T := by
  obtain ⟨P, H, h8, h6, pm, hm, px, hx, a, b1, b2, b3, b4, c2, c3, c4, c5⟩ := rel_all h
  obtain ⟨cold, cc1, cc2⟩ := c2.2.2.1
  obtain ⟨lamp, ll1, ll2⟩ := c2.2.2.2.2.1
  rcases nI_cases i P (by omega) with ⟨n, hn, rfl⟩ | hi
  · rcases of_in v (b := 99) (by omega) with ⟨s, hs, rfl⟩ | hv
    · obtain ⟨kd, m, fc, cl, hF, hG⟩ := pane_all b1 c3 (n := n) (by omega)
      rcases Nat.lt_or_ge (lst (fun c => decide (s ≤ strN kd m cl c lamp)) 0 41) 41 with hX | hX
      · exact OpOK.of (fun d => x_coldFor_i px h8 hn hF (a.2.2.2.2.2.1.trans ll2) ll1 hs hX) (fun d => m_coldFor_i pm h8 hn hG cc2 ll2 cc1 ll1 hs hX) rfl h
      · have hX : lst (fun c => decide (s ≤ strN kd m cl c lamp)) 0 41 = 41 := Nat.le_antisymm (lst_le _ 41 0).2 hX
        exact OpOK.of (fun d => x_coldFor_n px h8 hn hF (a.2.2.2.2.2.1.trans ll2) ll1 hs hX) (fun d => m_coldFor_n (M := up M 60 2 (M 60 2 + 1)) pm h8 hn hG cc2 ll2 cc1 ll1 hs hX) rfl (h.err 2 (by omega))
    · exact OpOK.of (fun d => x_coldFor_b px h8 hn hv) (fun d => m_coldFor_b (M := up M 60 1 (M 60 1 + 1)) pm h8 hn hv) rfl (h.err 1 (by omega))
  · exact OpOK.of (fun d => x_coldFor_o px h8 hi) (fun d => m_coldFor_o (M := up M 60 1 (M 60 1 + 1)) pm h8 hi) rfl (h.err 1 (by omega))
