/-! OPERATION worths -/
theorem up_comm {M : xM} {k j a b : Nat} {v w : Int32} (h : k ≠ a) : up (up M k j v) a b w = up (up M a b w) k j v := by
  funext x y
  simp only [up_rd]
  grind
theorem lst_all {f : Nat → Bool} : ∀ (k c i : Nat), c ≤ i → i < lst f c k → ¬ f i = true := by
  intro k
  induction k with
  | zero => intro c i h1 h2; exact absurd h2 (by show ¬ i < c; omega)
  | succ k ih =>
    intro c i h1 h2
    by_cases h : f c = true
    · rw [lst_t h] at h2; omega
    · rw [lst_f h] at h2
      by_cases hc : c = i
      · rw [← hc]; exact h
      · exact ih (c + 1) i (by omega) h2
def wX (M : xM) (e : Nat) : Nat → xM
  | 0 => M
  | n + 1 => up (wX M e n) (3 + n) 6 (M (53 + 2 * e) n)
def wM (M : xM) (e : Nat) : Nat → xM
  | 0 => M
  | n + 1 => up (wM M e n) 62 (10 + 7 * n + 6) (M 67 (24 * e + n))
theorem wX_ne {M : xM} {e c : Nat} (hc : c < 3 ∨ 10 < c) : ∀ {n : Nat}, n ≤ 8 → wX M e n c = M c := by
  intro n
  induction n with
  | zero => intro _; rfl
  | succ n ih => intro hn; show up (wX M e n) (3 + n) 6 _ c = _; rw [up_ne (by omega), ih (by omega)]
theorem wM_ne {M : xM} {e c : Nat} (hc : c ≠ 62) : ∀ {n : Nat}, wM M e n c = M c := by
  intro n
  induction n with
  | zero => rfl
  | succ n ih => show up (wM M e n) 62 _ _ c = _; rw [up_ne hc, ih]
theorem wM_lo {M : xM} {e j : Nat} (hj : j < 10) : ∀ {n : Nat}, wM M e n 62 j = M 62 j := by
  intro n
  induction n with
  | zero => rfl
  | succ n ih => show up (wM M e n) 62 _ _ 62 j = _; rw [up_nj (by omega), ih]
theorem wM_up {M : xM} {e c j : Nat} {v : Int32} (h1 : c ≠ 62) (h2 : c ≠ 67) : ∀ {n : Nat}, wM (up M c j v) e n = up (wM M e n) c j v := by
  intro n
  induction n with
  | zero => rfl
  | succ n ih =>
    show up (wM (up M c j v) e n) 62 _ (up M c j v 67 _) = _
    rw [ih, up_ne (fun q => h2 q.symm), up_comm h1]
    rfl
theorem Rel.worth {M : xM} (h : Rel M) {n v : Nat} (hn : n < 8) (hv : v ≤ 99) : Rel (up (up M (3 + n) 6 (nI v)) 62 (10 + 7 * n + 6) (nI v)) := by
  obtain ⟨P, H, h8, h6, pm, hm, px, hx, a, b1, b2, b3, b4, c2, c3, c4, c5⟩ := rel_all h
  have iv : iN (nI v) 99 := ⟨v, hv, rfl⟩
  refine h.now ?_ ?_ ?_ ?_ ?_ ?_ ?_ P H ?_ ?_ ?_ ?_ ?_
  · intro c x y; simp only [up_ne x, up_ne (show c ≠ 1 from fun q => y (by omega)), up_ne (show c ≠ 11 from fun q => y (by omega)), up_ne (show c ≠ 12 from fun q => y (by omega)), up_ne (show c ≠ 13 from fun q => y (by omega)), up_ne (show c ≠ 3 + n from fun q => y (by omega))]
  · intro j hj; simp only [up_rd]; grind
  · unfold hsA; simp only [up_rd]; grind
  · intro p j hp hj; have := b1 p j hp hj; simp only [up_rd]; grind
  · intro i hi; have := b2 i hi; have := c5 i hi; simp only [up_rd]; grind
  · intro i hi; have := b3 i hi; simp only [up_rd]; grind
  · intro i hi; have := b4 i hi; simp only [up_rd]; grind
  · unfold rwA; simp only [up_rd]; grind
  · unfold rwB; simp only [up_rd]; grind
  · intro p hp; have := c3 p hp; simp only [up_rd]; grind
  · intro p hp; obtain ⟨he, e1, e2⟩ := c4 p (by omega); exact ⟨he, by omega, by simp only [up_rd]; grind⟩
  · intro i hi; have := c5 i hi; have : iN 0 99999 := ⟨0, by omega, rfl⟩; simp only [up_rd]; grind
theorem rel_ws {M : xM} (h : Rel M) {e : Nat} {cs : Nat → Int32} : ∀ n, n ≤ 8 → (∀ i, i < n → ∃ v, v ≤ 99 ∧ M (53 + 2 * e) i = nI v ∧ M 67 (24 * e + i) = nI v) → Rel (wM (wX M e n) e n) := by
  intro n
  induction n with
  | zero => intro _ _; exact h
  | succ n ih =>
    intro h8 hw
    obtain ⟨v, v1, v2, v3⟩ := hw n (by omega)
    have w := (ih (by omega) (fun i hi => hw i (by omega))).worth (n := n) (v := v) (by omega) v1
    show Rel (up (wM (up (wX M e n) (3 + n) 6 (M (53 + 2 * e) n)) e n) 62 (10 + 7 * n + 6) (up (wX M e n) (3 + n) 6 (M (53 + 2 * e) n) 67 (24 * e + n)))
    rw [wM_up (by omega) (by omega), up_ne (by omega), wX_ne (Or.inr (by omega)) (by omega), v2, v3]
    exact w
def wsF (cs : Nat → Int32) (P : Nat) : Nat → Bool := fun i => !decide (i < P ∧ 0 ≤ cs i ∧ cs i ≤ 99)
theorem wsF_t {cs : Nat → Int32} {P i : Nat} (h : ¬ (i < P ∧ 0 ≤ cs i ∧ cs i ≤ 99)) : wsF cs P i = true := by
  unfold wsF
  rw [decide_eq_false h]
  rfl
theorem wsF_f {cs : Nat → Int32} {P i : Nat} (h : i < P ∧ 0 ≤ cs i ∧ cs i ≤ 99) : ¬ wsF cs P i = true := by
  unfold wsF
  rw [decide_eq_true h]
  decide
theorem wsF_n {cs : Nat → Int32} {P i : Nat} (h : ¬ wsF cs P i = true) : i < P ∧ ∃ v, v ≤ 99 ∧ cs i = nI v := by
  have k : i < P ∧ 0 ≤ cs i ∧ cs i ≤ 99 := Classical.byContradiction (fun q => h (wsF_t q))
  refine ⟨k.1, ?_⟩
  rcases of_in (cs i) (b := 99) (by omega) with ⟨v, v1, v2⟩ | q
  · exact ⟨v, v1, v2⟩
  · exact absurd k.2 q
set_option maxRecDepth 100000 in
set_option maxHeartbeats 4000000 in
theorem x_worths_o {ro : xRO} {d : Nat} {M : xM} {T : Nat} {i : Int32} (hi : ¬ (0 ≤ i ∧ i < 4))  : Rn ro (d + 90) M_X7_worths 0 [some (.ref 3), some (.int i), none, none, none, none] [] (mk M T) (fun r h => r = some (.int (-1000000001)) ∧ h = mk (up M 60 1 (M 60 1 + 1)) T) := by
  refine R_go 2 (pc' := 2) (L' := [some (.ref 3), some (.int i), none, none, none, none]) (st' := [.int i, .ref 3]) (h' := mk M T) (fun _ => rfl) ?_
  refine R_callD (i := .invokevirtual 180) (kd := 0) (y := M_X7_sheetAt) (as := [.ref 3, .int i]) (r := []) (L0 := [some (.ref 3), some (.int i)]) (v := some (.null)) (h' := mk M T) (pc' := 5) (st' := [.null]) rfl rfl rfl rfl rfl rfl (c_sheetAt_out hi) ?_
  refine R_go 5 (pc' := 12) (L' := [some (.ref 3), some (.int i), some (.null), none, none, none]) (st' := [.int 1, .ref 3]) (h' := mk M T) (fun _ => rfl) ?_
  refine R_callD (i := .invokevirtual 75) (kd := 0) (y := M_X7_error) (as := [.ref 3, .int 1]) (r := []) (L0 := [some (.ref 3), some (.int 1)]) (v := some (.int (-1000000001))) (h' := mk (up M 60 1 (M 60 1 + 1)) T) (pc' := 15) (st' := [.int (-1000000001)]) rfl rfl rfl rfl rfl rfl (c_error_1) ?_
  refine R_ret 1 (pcr := 15) (v := some (.int (-1000000001))) (h' := mk (up M 60 1 (M 60 1 + 1)) T) (fun _ => rfl) ?_
  exact ⟨rfl, rfl⟩
set_option maxRecDepth 100000 in
set_option maxHeartbeats 4000000 in
theorem m_worths_o {ro : xRO} {d : Nat} {M : xM} {T : Nat} {i : Int32} (hi : ¬ (0 ≤ i ∧ i < 4))  : Rn ro (d + 90) M_X8_worths 0 [some (.ref 64), some (.int i), none, none] [] (mk M T) (fun r h => r = some (.int (-1000000001)) ∧ h = mk (up M 64 1 (M 64 1 + 1)) T) := by
  refine R_go 2 (pc' := 2) (L' := [some (.ref 64), some (.int i), none, none]) (st' := [.int i, .ref 64]) (h' := mk M T) (fun _ => rfl) ?_
  refine R_callD (i := .invokevirtual 249) (kd := 0) (y := M_X8_notThere) (as := [.ref 64, .int i]) (r := []) (L0 := [some (.ref 64), some (.int i)]) (v := some (.int (-1000000001))) (h' := mk M T) (pc' := 5) (st' := [.int (-1000000001)]) rfl rfl rfl rfl rfl rfl (m_notThere_o hi) ?_
  refine R_go 5 (pc' := 12) (L' := [some (.ref 64), some (.int i), some (.int (-1000000001)), none]) (st' := [.int (-1000000001), .ref 64]) (h' := mk M T) (fun _ => rfl) ?_
  refine R_callD (i := .invokevirtual 81) (kd := 0) (y := M_X8_error) (as := [.ref 64, .int (-1000000001)]) (r := []) (L0 := [some (.ref 64), some (.int (-1000000001))]) (v := some (.int (-1000000001))) (h' := mk (up M 64 1 (M 64 1 + 1)) T) (pc' := 15) (st' := [.int (-1000000001)]) rfl rfl rfl rfl rfl rfl (m_error_1) ?_
  refine R_ret 1 (pcr := 15) (v := some (.int (-1000000001))) (h' := mk (up M 64 1 (M 64 1 + 1)) T) (fun _ => rfl) ?_
  exact ⟨rfl, rfl⟩
set_option maxRecDepth 100000 in
set_option maxHeartbeats 4000000 in
theorem x_worths_0 {ro : xRO} {d : Nat} {M : xM} {T : Nat} {e : Nat} (he : e < 4) (hb : M (52 + 2 * e) 1 = nI 0)  : Rn ro (d + 90) M_X7_worths 0 [some (.ref 3), some (.int (nI e)), none, none, none, none] [] (mk M T) (fun r h => r = some (.int (-1000000002)) ∧ h = mk (up M 60 2 (M 60 2 + 1)) T) := by
  refine R_go 2 (pc' := 2) (L' := [some (.ref 3), some (.int (nI e)), none, none, none, none]) (st' := [.int (nI e), .ref 3]) (h' := mk M T) (fun _ => rfl) ?_
  refine R_callD (i := .invokevirtual 180) (kd := 0) (y := M_X7_sheetAt) (as := [.ref 3, .int (nI e)]) (r := []) (L0 := [some (.ref 3), some (.int (nI e))]) (v := some (.ref (52 + 2 * e + 3))) (h' := mk M T) (pc' := 5) (st' := [.ref (52 + 2 * e + 3)]) rfl rfl rfl rfl rfl rfl (c_sheetAt_in (n := e) (by omega)) ?_
  refine R_go 4 (pc' := 17) (L' := [some (.ref 3), some (.int (nI e)), some (.ref (52 + 2 * e + 3)), none, none, none]) (st' := [.ref (52 + 2 * e + 3)]) (h' := mk M T) (fun _ => rfl) ?_
  refine R_getI (i := 237) (j := 1) (c := 52 + 2 * e) (sh_sheet (by omega)) rfl rfl rfl ?_
  refine R_top (y := 0) (hb) ?_
  refine R_go 3 (pc' := 25) (L' := [some (.ref 3), some (.int (nI e)), some (.ref (52 + 2 * e + 3)), none, none, none]) (st' := [.int 2, .ref 3]) (h' := mk M T) (fun _ => rfl) ?_
  refine R_callD (i := .invokevirtual 75) (kd := 0) (y := M_X7_error) (as := [.ref 3, .int 2]) (r := []) (L0 := [some (.ref 3), some (.int 2)]) (v := some (.int (-1000000002))) (h' := mk (up M 60 2 (M 60 2 + 1)) T) (pc' := 28) (st' := [.int (-1000000002)]) rfl rfl rfl rfl rfl rfl (c_error_2) ?_
  refine R_ret 1 (pcr := 28) (v := some (.int (-1000000002))) (h' := mk (up M 60 2 (M 60 2 + 1)) T) (fun _ => rfl) ?_
  exact ⟨rfl, rfl⟩
set_option maxRecDepth 100000 in
set_option maxHeartbeats 4000000 in
theorem m_worths_0 {ro : xRO} {d : Nat} {M : xM} {T : Nat} {e : Nat} (he : e < 4) (hb : M 65 e = nI 0)  : Rn ro (d + 90) M_X8_worths 0 [some (.ref 64), some (.int (nI e)), none, none] [] (mk M T) (fun r h => r = some (.int (-1000000002)) ∧ h = mk (up M 64 2 (M 64 2 + 1)) T) := by
  refine R_go 2 (pc' := 2) (L' := [some (.ref 64), some (.int (nI e)), none, none]) (st' := [.int (nI e), .ref 64]) (h' := mk M T) (fun _ => rfl) ?_
  refine R_callD (i := .invokevirtual 249) (kd := 0) (y := M_X8_notThere) (as := [.ref 64, .int (nI e)]) (r := []) (L0 := [some (.ref 64), some (.int (nI e))]) (v := some (.int (-1000000002))) (h' := mk M T) (pc' := 5) (st' := [.int (-1000000002)]) rfl rfl rfl rfl rfl rfl (m_notThere_0 he hb) ?_
  refine R_go 5 (pc' := 12) (L' := [some (.ref 64), some (.int (nI e)), some (.int (-1000000002)), none]) (st' := [.int (-1000000002), .ref 64]) (h' := mk M T) (fun _ => rfl) ?_
  refine R_callD (i := .invokevirtual 81) (kd := 0) (y := M_X8_error) (as := [.ref 64, .int (-1000000002)]) (r := []) (L0 := [some (.ref 64), some (.int (-1000000002))]) (v := some (.int (-1000000002))) (h' := mk (up M 64 2 (M 64 2 + 1)) T) (pc' := 15) (st' := [.int (-1000000002)]) rfl rfl rfl rfl rfl rfl (m_error_2) ?_
  refine R_ret 1 (pcr := 15) (v := some (.int (-1000000002))) (h' := mk (up M 64 2 (M 64 2 + 1)) T) (fun _ => rfl) ?_
  exact ⟨rfl, rfl⟩
set_option maxRecDepth 100000 in
set_option maxHeartbeats 4000000 in
theorem lp_x_worths {ro : xRO} {d : Nat} {M : xM} {T : Nat}  {e : Nat} (he : e < 4) {z : Nat} (hz : M (52 + 2 * e) 2 = nI z) (z24 : z ≤ 24) {P : Nat} (hP : M 1 6 = nI P) (h8 : P ≤ 8) {cs : Nat → Int32} (hw : ∀ i, i < 24 → ((0 ≤ M (53 + 2 * e) i ∧ M (53 + 2 * e) i ≤ 99) ↔ (0 ≤ cs i ∧ cs i ≤ 99))) : ∀ (k : Nat) (i : Nat) (w w2 : Option Value), i + k = z → i ≤ P →  Rn ro (d + 90) M_X7_worths 31 [some (.ref 3), some (.int (nI e)), some (.ref (52 + 2 * e + 3)), some (.int (nI i)), w, w2] [] (mk (wX M e i) T) (fun r h => r = some (.int (nI (lst (wsF cs P) i k))) ∧ h = mk (wX M e (lst (wsF cs P) i k)) T) := by
  intro k
  induction k with
  | zero =>
    intro i w w2 hi hiP
    obtain rfl : i = z := by omega
    refine R_go 2 (pc' := 33) (L' := [some (.ref 3), some (.int (nI e)), some (.ref (52 + 2 * e + 3)), some (.int (nI i)), w, w2]) (st' := [.ref (52 + 2 * e + 3), .int (nI i)]) (h' := mk (wX M e i) T) (fun _ => rfl) ?_
    refine R_getI (i := 244) (j := 2) (c := 52 + 2 * e) (sh_sheet (by omega)) rfl rfl rfl ?_
    refine R_top (y := nI i) ((congrFun (wX_ne (by omega) (by omega)) 2).trans hz) ?_
    refine R_if 1 (c := (nI i) ≤ (nI i)) (t := 87) (f := 39) (L' := [some (.ref 3), some (.int (nI e)), some (.ref (52 + 2 * e + 3)), some (.int (nI i)), w, w2]) (st' := []) (h' := mk (wX M e i) T) (fun _ => rfl) (fun g1 => ?_) (fun g1 => ?_)
    · replace g1 : i ≤ i := (nI_leI (a := i) (b := i) (by omega) (by omega)).mp g1
      refine R_go 1 (pc' := 88) (L' := [some (.ref 3), some (.int (nI e)), some (.ref (52 + 2 * e + 3)), some (.int (nI i)), w, w2]) (st' := [.ref (52 + 2 * e + 3)]) (h' := mk (wX M e i) T) (fun _ => rfl) ?_
      refine R_getI (i := 244) (j := 2) (c := 52 + 2 * e) (sh_sheet (by omega)) rfl rfl rfl ?_
      refine R_top (y := nI i) ((congrFun (wX_ne (by omega) (by omega)) 2).trans hz) ?_
      refine R_ret 1 (pcr := 91) (v := some (.int (nI i))) (h' := mk (wX M e i) T) (fun _ => rfl) ?_
      exact ⟨rfl, rfl⟩
    · replace g1 : ¬ i ≤ i := fun q => g1 ((nI_leI (a := i) (b := i) (by omega) (by omega)).mpr q)
      omega
  | succ k ih =>
    intro i w w2 hi hiP
    refine R_go 2 (pc' := 33) (L' := [some (.ref 3), some (.int (nI e)), some (.ref (52 + 2 * e + 3)), some (.int (nI i)), w, w2]) (st' := [.ref (52 + 2 * e + 3), .int (nI i)]) (h' := mk (wX M e i) T) (fun _ => rfl) ?_
    refine R_getI (i := 244) (j := 2) (c := 52 + 2 * e) (sh_sheet (by omega)) rfl rfl rfl ?_
    refine R_top (y := nI z) ((congrFun (wX_ne (by omega) (by omega)) 2).trans hz) ?_
    refine R_if 1 (c := (nI z) ≤ (nI i)) (t := 87) (f := 39) (L' := [some (.ref 3), some (.int (nI e)), some (.ref (52 + 2 * e + 3)), some (.int (nI i)), w, w2]) (st' := []) (h' := mk (wX M e i) T) (fun _ => rfl) (fun g1 => ?_) (fun g1 => ?_)
    · replace g1 : z ≤ i := (nI_leI (a := z) (b := i) (by omega) (by omega)).mp g1
      omega
    · replace g1 : ¬ z ≤ i := fun q => g1 ((nI_leI (a := z) (b := i) (by omega) (by omega)).mpr q)
      refine R_go 3 (pc' := 44) (L' := [some (.ref 3), some (.int (nI e)), some (.ref (52 + 2 * e + 3)), some (.int (nI i)), w, w2]) (st' := [.int (nI i), .ref 4]) (h' := mk (wX M e i) T) (fun _ => rfl) ?_
      refine R_call2 (i := .invokevirtual 116) (kd := 0) (y := M_X0_paneAt) (as := [.ref 4, .int (nI i)]) (r := []) (L0 := [some (.ref 4), some (.int (nI i))]) (v1 := some (.ref (3 + i + 3))) (v2 := some (.null)) (h1' := mk (wX M e i) T) (h2' := mk (wX M e i) T) (pc' := 47) (st1 := [.ref (3 + i + 3)]) (st2 := [.null]) rfl rfl rfl rfl rfl rfl (c_paneAt2 (M := wX M e i) (i := i) ((congrFun (wX_ne (by omega) (by omega)) 6).trans hP) h8 (by omega)) (fun g2 => ?_) (fun g2 => ?_)
      · refine R_go 3 (pc' := 51) (L' := [some (.ref 3), some (.int (nI e)), some (.ref (52 + 2 * e + 3)), some (.int (nI i)), some (.ref (3 + i + 3)), w2]) (st' := [.int (nI i), .ref (52 + 2 * e + 3)]) (h' := mk (wX M e i) T) (fun _ => rfl) ?_
        refine R_callD (i := .invokevirtual 280) (kd := 0) (y := M_X4_numberAt) (as := [.ref (52 + 2 * e + 3), .int (nI i)]) (r := []) (L0 := [some (.ref (52 + 2 * e + 3)), some (.int (nI i))]) (v := some (.int (wX M e i (53 + 2 * e) i))) (h' := mk (wX M e i) T) (pc' := 54) (st' := [.int (wX M e i (53 + 2 * e) i)]) rfl rfl rfl rfl (xPre_c (sh_sheet (by omega)) rfl rfl rfl rfl) rfl (c_numberAt (M := wX M e i) (e := e) (n := i) he ((congrFun (wX_ne (by omega) (by omega)) 2).trans hz) z24 (by omega)) ?_
        refine R_top ((congrFun (wX_ne (by omega) (by omega)) i)) ?_
        refine R_go 6 (pc' := 66) (L' := [some (.ref 3), some (.int (nI e)), some (.ref (52 + 2 * e + 3)), some (.int (nI i)), some (.ref (3 + i + 3)), some (.int (M (53 + 2 * e) i))]) (st' := [.int 99, .int 0, .int (M (53 + 2 * e) i)]) (h' := mk (wX M e i) T) (fun _ => rfl) ?_
        refine R_call2 (i := .invokestatic 78) (kd := 1) (y := M_X7_within) (as := [.int (M (53 + 2 * e) i), .int 0, .int 99]) (r := []) (L0 := [some (.int (M (53 + 2 * e) i)), some (.int 0), some (.int 99)]) (v1 := some (.int 1)) (v2 := some (.int 0)) (h1' := mk (wX M e i) T) (h2' := mk (wX M e i) T) (pc' := 69) (st1 := [.int 1]) (st2 := [.int 0]) rfl rfl rfl rfl rfl rfl (c_within) (fun g3 => ?_) (fun g3 => ?_)
        · refine R_go 3 (pc' := 78) (L' := [some (.ref 3), some (.int (nI e)), some (.ref (52 + 2 * e + 3)), some (.int (nI i)), some (.ref (3 + i + 3)), some (.int (M (53 + 2 * e) i))]) (st' := [.int (M (53 + 2 * e) i), .ref (3 + i + 3)]) (h' := mk (wX M e i) T) (fun _ => rfl) ?_
          refine R_putI (i := 110) (j := 6) (c := 3 + i) (sh_pane (by omega)) rfl rfl rfl ?_
          refine R_go 1 (pc' := 84) (L' := [some (.ref 3), some (.int (nI e)), some (.ref (52 + 2 * e + 3)), some (.int ((nI i) + 1)), some (.ref (3 + i + 3)), some (.int (M (53 + 2 * e) i))]) (st' := []) (h' := mk (up (wX M e i) (3 + i) 6 (M (53 + 2 * e) i)) T) (fun _ => rfl) ?_
          rw [nI_1]
          refine R_go 1 (pc' := 31) (L' := [some (.ref 3), some (.int (nI e)), some (.ref (52 + 2 * e + 3)), some (.int (nI (i + 1))), some (.ref (3 + i + 3)), some (.int (M (53 + 2 * e) i))]) (st' := []) (h' := mk (up (wX M e i) (3 + i) 6 (M (53 + 2 * e) i)) T) (fun _ => rfl) ?_
          rw [lst_f (wsF_f ⟨by omega, (hw i (by omega)).mp g3⟩)]
          exact ih (i + 1) _ _ (by omega) (by omega)
        · refine R_ret 3 (pcr := 73) (v := some (.int (nI i))) (h' := mk (wX M e i) T) (fun _ => rfl) ?_
          rw [lst_t (wsF_t (fun q => g3 ((hw i (by omega)).mpr q.2)))]
          exact ⟨rfl, rfl⟩
      · refine R_go 3 (pc' := 51) (L' := [some (.ref 3), some (.int (nI e)), some (.ref (52 + 2 * e + 3)), some (.int (nI i)), some (.null), w2]) (st' := [.int (nI i), .ref (52 + 2 * e + 3)]) (h' := mk (wX M e i) T) (fun _ => rfl) ?_
        refine R_callD (i := .invokevirtual 280) (kd := 0) (y := M_X4_numberAt) (as := [.ref (52 + 2 * e + 3), .int (nI i)]) (r := []) (L0 := [some (.ref (52 + 2 * e + 3)), some (.int (nI i))]) (v := some (.int (wX M e i (53 + 2 * e) i))) (h' := mk (wX M e i) T) (pc' := 54) (st' := [.int (wX M e i (53 + 2 * e) i)]) rfl rfl rfl rfl (xPre_c (sh_sheet (by omega)) rfl rfl rfl rfl) rfl (c_numberAt (M := wX M e i) (e := e) (n := i) he ((congrFun (wX_ne (by omega) (by omega)) 2).trans hz) z24 (by omega)) ?_
        refine R_top ((congrFun (wX_ne (by omega) (by omega)) i)) ?_
        refine R_ret 5 (pcr := 73) (v := some (.int (nI i))) (h' := mk (wX M e i) T) (fun _ => rfl) ?_
        rw [lst_t (wsF_t (fun q => by omega))]
        exact ⟨rfl, rfl⟩
set_option maxRecDepth 100000 in
set_option maxHeartbeats 4000000 in
theorem x_worths_i {ro : xRO} {d : Nat} {M : xM} {T : Nat} {e : Nat} (he : e < 4) {z : Nat} (hz : M (52 + 2 * e) 2 = nI z) (z24 : z ≤ 24) {b : Nat} (hb : M (52 + 2 * e) 1 = nI b) (b32 : b ≤ 32) (b0 : ¬ b = 0) {P : Nat} (hP : M 1 6 = nI P) (h8 : P ≤ 8) {cs : Nat → Int32} (hw : ∀ i, i < 24 → ((0 ≤ M (53 + 2 * e) i ∧ M (53 + 2 * e) i ≤ 99) ↔ (0 ≤ cs i ∧ cs i ≤ 99))) : Rn ro (d + 90) M_X7_worths 0 [some (.ref 3), some (.int (nI e)), none, none, none, none] [] (mk M T) (fun r h => r = some (.int (nI (lst (wsF cs P) 0 z))) ∧ h = mk (wX M e (lst (wsF cs P) 0 z)) T) := by
  refine R_go 2 (pc' := 2) (L' := [some (.ref 3), some (.int (nI e)), none, none, none, none]) (st' := [.int (nI e), .ref 3]) (h' := mk M T) (fun _ => rfl) ?_
  refine R_callD (i := .invokevirtual 180) (kd := 0) (y := M_X7_sheetAt) (as := [.ref 3, .int (nI e)]) (r := []) (L0 := [some (.ref 3), some (.int (nI e))]) (v := some (.ref (52 + 2 * e + 3))) (h' := mk M T) (pc' := 5) (st' := [.ref (52 + 2 * e + 3)]) rfl rfl rfl rfl rfl rfl (c_sheetAt_in (n := e) (by omega)) ?_
  refine R_go 4 (pc' := 17) (L' := [some (.ref 3), some (.int (nI e)), some (.ref (52 + 2 * e + 3)), none, none, none]) (st' := [.ref (52 + 2 * e + 3)]) (h' := mk M T) (fun _ => rfl) ?_
  refine R_getI (i := 237) (j := 1) (c := 52 + 2 * e) (sh_sheet (by omega)) rfl rfl rfl ?_
  refine R_top (y := nI b) (hb) ?_
  refine R_ifn 1 (c := (nI b) = 0) (t := 29) (f := 23) (L' := [some (.ref 3), some (.int (nI e)), some (.ref (52 + 2 * e + 3)), none, none, none]) (st' := []) (h' := mk M T) (fun _ => rfl) (fun h1 => ?_) (fun h1 => ?_)
  · replace h1 : ¬ b = 0 := fun q => h1 ((nI_eq (a := b) (b := 0) (by omega) (by omega)).mpr q)
    refine R_go 2 (pc' := 31) (L' := [some (.ref 3), some (.int (nI e)), some (.ref (52 + 2 * e + 3)), some (.int 0), none, none]) (st' := []) (h' := mk M T) (fun _ => rfl) ?_
    exact lp_x_worths he hz z24 hP h8 hw z 0 none none (Nat.zero_add z) (by omega)
  · replace h1 : b = 0 := (nI_eq (a := b) (b := 0) (by omega) (by omega)).mp h1
    omega
set_option maxRecDepth 100000 in
set_option maxHeartbeats 4000000 in
theorem lp_m_worths {ro : xRO} {d : Nat} {M : xM} {T : Nat}  {e : Nat} (he : e < 4) {z : Nat} (hz : M 66 e = nI z) (z24 : z ≤ 24) {P : Nat} (hP : M 62 6 = nI P) (h8 : P ≤ 8) {cs : Nat → Int32} (hw : ∀ i, i < 24 → M 67 (24 * e + i) = cs i) : ∀ (k : Nat) (i : Nat), i + k = z →  Rn ro (d + 90) M_X8_worths 18 [some (.ref 64), some (.int (nI e)), some (.int 0), some (.int (nI i))] [] (mk (wM M e i) T) (fun r h => r = some (.int (nI (lst (wsF cs P) i k))) ∧ h = mk (wM M e (lst (wsF cs P) i k)) T) := by
  intro k
  induction k with
  | zero =>
    intro i hi
    obtain rfl : i = z := by omega
    refine R_go 4 (pc' := 24) (L' := [some (.ref 64), some (.int (nI e)), some (.int 0), some (.int (nI i))]) (st' := [.int (nI e), .ref 69, .int (nI i)]) (h' := mk (wM M e i) T) (fun _ => rfl) ?_
    refine R_iald (c := 66) (n := 4) (j := e) rfl rfl (by omega) (by decide) ?_
    refine R_top (y := nI i) ((congrFun (wM_ne (by omega)) e).trans hz) ?_
    refine R_if 1 (c := (nI i) ≤ (nI i)) (t := 91) (f := 28) (L' := [some (.ref 64), some (.int (nI e)), some (.int 0), some (.int (nI i))]) (st' := []) (h' := mk (wM M e i) T) (fun _ => rfl) (fun g1 => ?_) (fun g1 => ?_)
    · replace g1 : i ≤ i := (nI_leI (a := i) (b := i) (by omega) (by omega)).mp g1
      refine R_ret 2 (pcr := 92) (v := some (.int (nI i))) (h' := mk (wM M e i) T) (fun _ => rfl) ?_
      exact ⟨rfl, rfl⟩
    · replace g1 : ¬ i ≤ i := fun q => g1 ((nI_leI (a := i) (b := i) (by omega) (by omega)).mpr q)
      omega
  | succ k ih =>
    intro i hi
    refine R_go 4 (pc' := 24) (L' := [some (.ref 64), some (.int (nI e)), some (.int 0), some (.int (nI i))]) (st' := [.int (nI e), .ref 69, .int (nI i)]) (h' := mk (wM M e i) T) (fun _ => rfl) ?_
    refine R_iald (c := 66) (n := 4) (j := e) rfl rfl (by omega) (by decide) ?_
    refine R_top (y := nI z) ((congrFun (wM_ne (by omega)) e).trans hz) ?_
    refine R_if 1 (c := (nI z) ≤ (nI i)) (t := 91) (f := 28) (L' := [some (.ref 64), some (.int (nI e)), some (.int 0), some (.int (nI i))]) (st' := []) (h' := mk (wM M e i) T) (fun _ => rfl) (fun g1 => ?_) (fun g1 => ?_)
    · replace g1 : z ≤ i := (nI_leI (a := z) (b := i) (by omega) (by omega)).mp g1
      omega
    · replace g1 : ¬ z ≤ i := fun q => g1 ((nI_leI (a := z) (b := i) (by omega) (by omega)).mpr q)
      refine R_go 5 (pc' := 36) (L' := [some (.ref 64), some (.int (nI e)), some (.int 0), some (.int (nI i))]) (st' := [.int ((wM M e i) 62 6), .int (nI i)]) (h' := mk (wM M e i) T) (fun _ => rfl) ?_
      refine R_top (y := nI P) ((wM_lo (by omega)).trans hP) ?_
      refine R_if 1 (c := (nI P) ≤ (nI i)) (t := 91) (f := 39) (L' := [some (.ref 64), some (.int (nI e)), some (.int 0), some (.int (nI i))]) (st' := []) (h' := mk (wM M e i) T) (fun _ => rfl) (fun g2 => ?_) (fun g2 => ?_)
      · replace g2 : P ≤ i := (nI_leI (a := P) (b := i) (by omega) (by omega)).mp g2
        refine R_ret 2 (pcr := 92) (v := some (.int (nI i))) (h' := mk (wM M e i) T) (fun _ => rfl) ?_
        rw [lst_t (wsF_t (fun q => by omega))]
        exact ⟨rfl, rfl⟩
      · replace g2 : ¬ P ≤ i := fun q => g2 ((nI_leI (a := P) (b := i) (by omega) (by omega)).mpr q)
        refine R_go 5 (pc' := 47) (L' := [some (.ref 64), some (.int (nI e)), some (.int 0), some (.int (nI i))]) (st' := [.int (24 * nI e), .ref 70]) (h' := mk (wM M e i) T) (fun _ => rfl) ?_
        refine R_top (pk_mul 24 e) ?_
        refine R_go 2 (pc' := 49) (L' := [some (.ref 64), some (.int (nI e)), some (.int 0), some (.int (nI i))]) (st' := [.int (nI (24 * e) + nI i), .ref 70]) (h' := mk (wM M e i) T) (fun _ => rfl) ?_
        refine R_top (nI_add (24 * e) i) ?_
        refine R_iald (c := 67) (n := 96) (j := (24 * e) + i) rfl rfl (by omega) (by decide) ?_
        refine R_top (y := M 67 ((24 * e) + i)) (congrFun (wM_ne (by omega)) _) ?_
        refine R_go 2 (pc' := 53) (L' := [some (.ref 64), some (.int (nI e)), some (.int 0), some (.int (nI i))]) (st' := [.int 99, .int 0, .int (M 67 ((24 * e) + i))]) (h' := mk (wM M e i) T) (fun _ => rfl) ?_
        refine R_call2 (i := .invokestatic 53) (kd := 1) (y := M_X8_in) (as := [.int (M 67 ((24 * e) + i)), .int 0, .int 99]) (r := []) (L0 := [some (.int (M 67 ((24 * e) + i))), some (.int 0), some (.int 99)]) (v1 := some (.int 1)) (v2 := some (.int 0)) (h1' := mk (wM M e i) T) (h2' := mk (wM M e i) T) (pc' := 56) (st1 := [.int 1]) (st2 := [.int 0]) rfl rfl rfl rfl rfl rfl (m_in) (fun g3 => ?_) (fun g3 => ?_)
        · refine R_go 7 (pc' := 69) (L' := [some (.ref 64), some (.int (nI e)), some (.int 0), some (.int (nI i))]) (st' := [.int (7 * nI i), .int 10, .ref 65]) (h' := mk (wM M e i) T) (fun _ => rfl) ?_
          refine R_top (pk_mul 7 i) ?_
          refine R_go 1 (pc' := 70) (L' := [some (.ref 64), some (.int (nI e)), some (.int 0), some (.int (nI i))]) (st' := [.int (10 + nI (7 * i)), .ref 65]) (h' := mk (wM M e i) T) (fun _ => rfl) ?_
          refine R_top (nI_add 10 (7 * i)) ?_
          refine R_go 2 (pc' := 73) (L' := [some (.ref 64), some (.int (nI e)), some (.int 0), some (.int (nI i))]) (st' := [.int (nI (10 + (7 * i)) + 6), .ref 65]) (h' := mk (wM M e i) T) (fun _ => rfl) ?_
          refine R_top (nI_add (10 + (7 * i)) 6) ?_
          refine R_go 5 (pc' := 81) (L' := [some (.ref 64), some (.int (nI e)), some (.int 0), some (.int (nI i))]) (st' := [.int (24 * nI e), .ref 70, .int (nI ((10 + (7 * i)) + 6)), .ref 65]) (h' := mk (wM M e i) T) (fun _ => rfl) ?_
          refine R_top (pk_mul 24 e) ?_
          refine R_go 2 (pc' := 83) (L' := [some (.ref 64), some (.int (nI e)), some (.int 0), some (.int (nI i))]) (st' := [.int (nI (24 * e) + nI i), .ref 70, .int (nI ((10 + (7 * i)) + 6)), .ref 65]) (h' := mk (wM M e i) T) (fun _ => rfl) ?_
          refine R_top (nI_add (24 * e) i) ?_
          refine R_iald (c := 67) (n := 96) (j := (24 * e) + i) rfl rfl (by omega) (by decide) ?_
          refine R_top (y := M 67 ((24 * e) + i)) (congrFun (wM_ne (by omega)) _) ?_
          refine R_iast (c := 62) (n := 398) (j := (10 + (7 * i)) + 6) rfl rfl (by omega) (by decide) ?_
          refine R_go 1 (pc' := 88) (L' := [some (.ref 64), some (.int (nI e)), some (.int 0), some (.int ((nI i) + 1))]) (st' := []) (h' := mk (up (wM M e i) 62 ((10 + (7 * i)) + 6) (M 67 ((24 * e) + i))) T) (fun _ => rfl) ?_
          rw [nI_1]
          refine R_go 1 (pc' := 18) (L' := [some (.ref 64), some (.int (nI e)), some (.int 0), some (.int (nI (i + 1)))]) (st' := []) (h' := mk (up (wM M e i) 62 ((10 + (7 * i)) + 6) (M 67 ((24 * e) + i))) T) (fun _ => rfl) ?_
          rw [lst_f (wsF_f ⟨by omega, by rw [← hw i (by omega)]; exact g3⟩)]
          exact ih (i + 1) (by omega)
        · refine R_ret 3 (pcr := 92) (v := some (.int (nI i))) (h' := mk (wM M e i) T) (fun _ => rfl) ?_
          rw [lst_t (wsF_t (fun q => g3 (by rw [hw i (by omega)]; exact q.2)))]
          exact ⟨rfl, rfl⟩
set_option maxRecDepth 100000 in
set_option maxHeartbeats 4000000 in
theorem m_worths_i {ro : xRO} {d : Nat} {M : xM} {T : Nat} {e : Nat} (he : e < 4) {z : Nat} (hz : M 66 e = nI z) (z24 : z ≤ 24) {b : Nat} (hb : M 65 e = nI b) (b32 : b ≤ 32) (b0 : ¬ b = 0) {P : Nat} (hP : M 62 6 = nI P) (h8 : P ≤ 8) {cs : Nat → Int32} (hw : ∀ i, i < 24 → M 67 (24 * e + i) = cs i) : Rn ro (d + 90) M_X8_worths 0 [some (.ref 64), some (.int (nI e)), none, none] [] (mk M T) (fun r h => r = some (.int (nI (lst (wsF cs P) 0 z))) ∧ h = mk (wM M e (lst (wsF cs P) 0 z)) T) := by
  refine R_go 2 (pc' := 2) (L' := [some (.ref 64), some (.int (nI e)), none, none]) (st' := [.int (nI e), .ref 64]) (h' := mk M T) (fun _ => rfl) ?_
  refine R_callD (i := .invokevirtual 249) (kd := 0) (y := M_X8_notThere) (as := [.ref 64, .int (nI e)]) (r := []) (L0 := [some (.ref 64), some (.int (nI e))]) (v := some (.int 0)) (h' := mk M T) (pc' := 5) (st' := [.int 0]) rfl rfl rfl rfl rfl rfl (m_notThere_i he hb b32 b0) ?_
  refine R_go 5 (pc' := 18) (L' := [some (.ref 64), some (.int (nI e)), some (.int 0), some (.int 0)]) (st' := []) (h' := mk M T) (fun _ => rfl) ?_
  exact lp_m_worths he hz z24 hP h8 hw z 0 (Nat.zero_add z)
set_option maxHeartbeats 4000000 in
theorem op_worths {ro : xRO} {M : xM} {T : Nat} (h : Rel M) {i  : Int32} : OpOK ro M_X7_worths M_X8_worths [some (.ref 3), some (.int i), none, none, none, none] [some (.ref 64), some (.int i), none, none] M T := by
  obtain ⟨P, H, h8, h6, pm, hm, px, hx, a, b1, b2, b3, b4, c2, c3, c4, c5⟩ := rel_all h
  rcases nI_cases i 4 (by omega) with ⟨e, he, rfl⟩ | hi
  · obtain ⟨b, z, bx, bm, b5, zx, zm, z24, bz, nr⟩ := rel_sh h he
    have b32 : b ≤ 32 := by omega
    by_cases b0 : b = 0
    · subst b0
      exact OpOK.of (fun d => x_worths_0 he bx) (fun d => m_worths_0 (M := up M 60 2 (M 60 2 + 1)) he bm) rfl (h.err 2 (by omega))
    · have hq : ∀ i v, i < 24 → v < 100 → (M (53 + 2 * e) i = nI v ↔ M 67 (24 * e + i) = nI v) := fun i v hi hv => numR_v (nr i hi) (by omega) hv
      have hw : ∀ i, i < 24 → ((0 ≤ M (53 + 2 * e) i ∧ M (53 + 2 * e) i ≤ 99) ↔ (0 ≤ M 67 (24 * e + i) ∧ M 67 (24 * e + i) ≤ 99)) := by
        intro i hi
        constructor
        · intro q
          rcases of_in (M (53 + 2 * e) i) (b := 99) (by omega) with ⟨v, v1, v2⟩ | q2
          · rw [(hq i v hi (by omega)).mp v2]; exact nI_in2 (a := 0) (b := 99) (by omega) (by omega) (by omega)
          · exact absurd q q2
        · intro q
          rcases of_in (M 67 (24 * e + i)) (b := 99) (by omega) with ⟨v, v1, v2⟩ | q2
          · rw [(hq i v hi (by omega)).mpr v2]; exact nI_in2 (a := 0) (b := 99) (by omega) (by omega) (by omega)
          · exact absurd q q2
      have q1 := (lst_le (wsF (fun i => M 67 (24 * e + i)) P) z 0).2
      have q2 : ∀ i, i < lst (wsF (fun i => M 67 (24 * e + i)) P) 0 z → i < P ∧ ∃ v, v ≤ 99 ∧ M (53 + 2 * e) i = nI v ∧ M 67 (24 * e + i) = nI v := by
        intro i hi
        obtain ⟨r1, v, r2, r3⟩ := wsF_n (lst_all z 0 i (by omega) hi)
        exact ⟨r1, v, r2, (hq i v (by omega) (by omega)).mpr r3, r3⟩
      have q3 : lst (wsF (fun i => M 67 (24 * e + i)) P) 0 z ≤ 8 := by
        rcases Nat.lt_or_ge 8 (lst (wsF (fun i => M 67 (24 * e + i)) P) 0 z) with q | q
        · have := (q2 8 q).1
          omega
        · exact q
      refine OpOK.of (fun d => x_worths_i he zx z24 bx b32 b0 px h8 hw) (fun d => m_worths_i he ((congrFun (wX_ne (by omega) q3) e).trans zm) z24 ((congrFun (wX_ne (by omega) q3) e).trans bm) b32 b0 ((congrFun (wX_ne (by omega) q3) 6).trans pm) h8 (fun i hi => congrFun (wX_ne (by omega) q3) _)) rfl ?_
      exact rel_ws h (cs := fun _ => 0) _ q3 (fun i hi => (q2 i hi).2)
  · exact OpOK.of (fun d => x_worths_o hi) (fun d => m_worths_o (M := up M 60 1 (M 60 1 + 1)) hi) rfl (h.err 1 (by omega))
