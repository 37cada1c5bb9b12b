/-! OPERATIONS, both sides -/
def OpOK (ro : xRO) (yx ym : MD) (Lx Lm : xL) (M : xM) (T : Nat) : Prop := ∃ (v : Int32) (M1 : xM) (T1 : Nat) (M2 : xM) (T2 : Nat), (∀ d, Rn ro (d + 90) yx 0 Lx [] (mk M T) (fun r h => r = some (.int v) ∧ h = mk M1 T1)) ∧ (∀ d, Rn ro (d + 90) ym 0 Lm [] (mk M1 T1) (fun r h => r = some (.int v) ∧ h = mk M2 T2)) ∧ Rel M2
set_option maxRecDepth 100000 in
set_option maxHeartbeats 4000000 in
theorem x_heir_in {ro : xRO} {d : Nat} {M : xM} {T : Nat} {H : Nat} (hH : M 1 7 = nI H) (h6 : H < 6) : Rn ro (d + 90) M_X7_heir 0 [some (.ref 3)] [] (mk M T) (fun r h => r = some (.int (nI H)) ∧ h = mk (up M 1 7 (nI (H + 1))) T) := by
  refine R_go 3 (pc' := 7) (L' := [some (.ref 3)]) (st' := [.int (M 1 7)]) (h' := mk M T) (fun _ => rfl) ?_
  refine R_top (hH) ?_
  refine R_if 2 (c := (nI H) < 6) (t := 18) (f := 12) (L' := [some (.ref 3)]) (st' := []) (h' := mk M T) (fun _ => rfl) (fun h1 => ?_) (fun h1 => ?_)
  · replace h1 : H < 6 := (nI_ltI (a := H) (b := 6) (by omega) (by omega)).mp h1
    refine R_go 4 (pc' := 26) (L' := [some (.ref 3)]) (st' := [.int (M 1 7), .ref 4]) (h' := mk M T) (fun _ => rfl) ?_
    refine R_top (hH) ?_
    refine R_go 2 (pc' := 28) (L' := [some (.ref 3)]) (st' := [.int (nI H + 1), .ref 4]) (h' := mk M T) (fun _ => rfl) ?_
    refine R_top (nI_add H 1) ?_
    refine R_go 4 (pc' := 38) (L' := [some (.ref 3)]) (st' := [.int ((up M 1 7 (nI (H + 1))) 1 7)]) (h' := mk (up M 1 7 (nI (H + 1))) T) (fun _ => rfl) ?_
    refine R_top (rfl) ?_
    refine R_go 2 (pc' := 40) (L' := [some (.ref 3)]) (st' := [.int (nI (H + 1) - 1)]) (h' := mk (up M 1 7 (nI (H + 1))) T) (fun _ => rfl) ?_
    refine R_top (nI_pred H) ?_
    refine R_ret 1 (pcr := 40) (v := some (.int (nI H))) (h' := mk (up M 1 7 (nI (H + 1))) T) (fun _ => rfl) ?_
    exact ⟨rfl, rfl⟩
  · replace h1 : ¬ H < 6 := fun q => h1 ((nI_ltI (a := H) (b := 6) (by omega) (by omega)).mpr q)
    omega
set_option maxRecDepth 100000 in
set_option maxHeartbeats 4000000 in
theorem x_heir_full {ro : xRO} {d : Nat} {M : xM} {T : Nat} (hH : M 1 7 = nI 6) : Rn ro (d + 90) M_X7_heir 0 [some (.ref 3)] [] (mk M T) (fun r h => r = some (.int (-1000000004)) ∧ h = mk (up M 60 4 (M 60 4 + 1)) T) := by
  refine R_go 3 (pc' := 7) (L' := [some (.ref 3)]) (st' := [.int (M 1 7)]) (h' := mk M T) (fun _ => rfl) ?_
  refine R_top (hH) ?_
  refine R_go 4 (pc' := 14) (L' := [some (.ref 3)]) (st' := [.int 4, .ref 3]) (h' := mk M T) (fun _ => rfl) ?_
  refine R_callD (i := .invokevirtual 75) (kd := 0) (y := M_X7_error) (as := [.ref 3, .int 4]) (r := []) (L0 := [some (.ref 3), some (.int 4)]) (v := some (.int (-1000000004))) (h' := mk (up M 60 4 (M 60 4 + 1)) T) (pc' := 17) (st' := [.int (-1000000004)]) rfl rfl rfl rfl rfl rfl (c_error_4) ?_
  refine R_ret 1 (pcr := 17) (v := some (.int (-1000000004))) (h' := mk (up M 60 4 (M 60 4 + 1)) T) (fun _ => rfl) ?_
  exact ⟨rfl, rfl⟩
set_option maxRecDepth 100000 in
set_option maxHeartbeats 4000000 in
theorem m_heir_in {ro : xRO} {d : Nat} {M : xM} {T : Nat} {H : Nat} (hH : M 62 7 = nI H) (h6 : H < 6) : Rn ro (d + 90) M_X8_heir 0 [some (.ref 64), none] [] (mk M T) (fun r h => r = some (.int (nI H)) ∧ h = mk (up (up M 62 7 (nI (H + 1))) 62 (66 + H) 0) T) := by
  refine R_go 4 (pc' := 7) (L' := [some (.ref 64), none]) (st' := [.int (M 62 7)]) (h' := mk M T) (fun _ => rfl) ?_
  refine R_top (hH) ?_
  refine R_ifn 4 (c := (nI H) = 6) (t := 21) (f := 14) (L' := [some (.ref 64), some (.int (nI H))]) (st' := []) (h' := mk M T) (fun _ => rfl) (fun h1 => ?_) (fun h1 => ?_)
  · replace h1 : ¬ H = 6 := fun q => h1 ((nI_eq (a := H) (b := 6) (by omega) (by omega)).mpr q)
    refine R_go 5 (pc' := 29) (L' := [some (.ref 64), some (.int (nI H))]) (st' := [.int (M 62 7), .int 7, .ref 65]) (h' := mk M T) (fun _ => rfl) ?_
    refine R_top (hH) ?_
    refine R_go 2 (pc' := 31) (L' := [some (.ref 64), some (.int (nI H))]) (st' := [.int (nI H + 1), .int 7, .ref 65]) (h' := mk M T) (fun _ => rfl) ?_
    refine R_top (nI_add H 1) ?_
    refine R_go 6 (pc' := 40) (L' := [some (.ref 64), some (.int (nI H))]) (st' := [.int (66 + nI H), .ref 65]) (h' := mk (up M 62 7 (nI (H + 1))) T) (fun _ => rfl) ?_
    refine R_top (nI_add 66 H) ?_
    refine R_go 1 (pc' := 41) (L' := [some (.ref 64), some (.int (nI H))]) (st' := [.int 0, .int (nI (66 + H)), .ref 65]) (h' := mk (up M 62 7 (nI (H + 1))) T) (fun _ => rfl) ?_
    refine R_iast (c := 62) (n := 398) (j := 66 + H) rfl rfl (by omega) (by decide) ?_
    refine R_ret 2 (pcr := 43) (v := some (.int (nI H))) (h' := mk (up (up M 62 7 (nI (H + 1))) 62 (66 + H) 0) T) (fun _ => rfl) ?_
    exact ⟨rfl, rfl⟩
  · replace h1 : H = 6 := (nI_eq (a := H) (b := 6) (by omega) (by omega)).mp h1
    omega
set_option maxRecDepth 100000 in
set_option maxHeartbeats 4000000 in
theorem m_heir_full {ro : xRO} {d : Nat} {M : xM} {T : Nat} (hH : M 62 7 = nI 6) : Rn ro (d + 90) M_X8_heir 0 [some (.ref 64), none] [] (mk M T) (fun r h => r = some (.int (-1000000004)) ∧ h = mk (up M 64 4 (M 64 4 + 1)) T) := by
  refine R_go 4 (pc' := 7) (L' := [some (.ref 64), none]) (st' := [.int (M 62 7)]) (h' := mk M T) (fun _ => rfl) ?_
  refine R_top (hH) ?_
  refine R_go 6 (pc' := 17) (L' := [some (.ref 64), some (.int 6)]) (st' := [.int (-1000000004), .ref 64]) (h' := mk M T) (fun _ => rfl) ?_
  refine R_callD (i := .invokevirtual 81) (kd := 0) (y := M_X8_error) (as := [.ref 64, .int (-1000000004)]) (r := []) (L0 := [some (.ref 64), some (.int (-1000000004))]) (v := some (.int (-1000000004))) (h' := mk (up M 64 4 (M 64 4 + 1)) T) (pc' := 20) (st' := [.int (-1000000004)]) rfl rfl rfl rfl rfl rfl (m_error_4) ?_
  refine R_ret 1 (pcr := 20) (v := some (.int (-1000000004))) (h' := mk (up M 64 4 (M 64 4 + 1)) T) (fun _ => rfl) ?_
  exact ⟨rfl, rfl⟩
theorem op_heir {ro : xRO} {M : xM} {T : Nat} (h : Rel M) : OpOK ro M_X7_heir M_X8_heir [some (.ref 3)] [some (.ref 64), none] M T := by
  obtain ⟨P, H, h8, h6, pm, hm, px, hx, a, b1, b2, b3, b4, c2, c3, c4, c5⟩ := rel_all h
  rcases Nat.lt_or_ge H 6 with q | q
  · refine ⟨_, _, _, _, _, fun d => x_heir_in hx q, fun d => m_heir_in (H := H) hm q, ?_⟩
    refine h.now ?_ ?_ ?_ ?_ ?_ ?_ ?_ P (H + 1) ?_ ?_ ?_ ?_ ?_
    · intro c x y; rw [up_ne x, up_ne x, up_ne (by omega)]
    · intro j hj; simp only [up_rd]; grind
    · unfold hsA; simp only [up_rd]; grind
    · intro p j hp hj; have := b1 p j hp hj; simp only [up_rd]; grind
    · intro i hi; have := b2 i hi; have := c5 i hi; simp only [up_rd]; grind
    · intro i hi; have := b3 i hi; simp only [up_rd]; grind
    · intro i hi; have := b4 i hi; simp only [up_rd]; grind
    · unfold rwA; simp only [up_rd]; grind
    · unfold rwB; simp only [up_rd]; grind
    · intro p hp; have := c3 p hp; simp only [up_rd]; grind
    · intro p hp; obtain ⟨he, e1, e2⟩ := c4 p hp; exact ⟨he, by omega, by simp only [up_rd]; grind⟩
    · intro i hi; have := c5 i hi; have : iN 0 99999 := ⟨0, by omega, rfl⟩; simp only [up_rd]; grind
  · obtain rfl : H = 6 := by omega
    exact ⟨_, _, _, _, _, fun d => x_heir_full hx, fun d => m_heir_full hm, h.err 4 (by omega)⟩
