/-! OPERATIONS, both sides -/
def OpOK (ro : xRO) (yx ym : MD) (Lx Lm : xL) (M : xM) (T : Nat) : Prop := ∃ (v : Int32) (M1 : xM) (T1 : Nat) (M2 : xM) (T2 : Nat), (∀ d, Rn ro (d + 90) yx 0 Lx [] (mk M T) (fun r h => r = some (.int v) ∧ h = mk M1 T1)) ∧ (∀ d, Rn ro (d + 90) ym 0 Lm [] (mk M1 T1) (fun r h => r = some (.int v) ∧ h = mk M2 T2)) ∧ Rel M2
theorem OpOK.of {ro : xRO} {yx ym : MD} {Lx Lm : xL} {M : xM} {T : Nat} {v v' : Int32} {M1 : xM} {T1 : Nat} {M2 : xM} {T2 : Nat} (hx : ∀ d, Rn ro (d + 90) yx 0 Lx [] (mk M T) (fun r h => r = some (.int v) ∧ h = mk M1 T1)) (hm : ∀ d, Rn ro (d + 90) ym 0 Lm [] (mk M1 T1) (fun r h => r = some (.int v') ∧ h = mk M2 T2)) (hv : v' = v) (hr : Rel M2) : OpOK ro yx ym Lx Lm M T := by
  subst hv
  exact ⟨_, _, _, _, _, hx, hm, hr⟩
set_option maxRecDepth 100000 in
set_option maxHeartbeats 4000000 in
theorem x_heir_in {ro : xRO} {d : Nat} {M : xM} {T : Nat} {H : Nat} (hH : M 1 7 = nI H) (h6 : H < 6) : Rn ro (d + 90) M_X7_heir 0 [some (.ref 3)] [] (mk M T) (fun r h => r = some (.int (nI H)) ∧ h = mk (up M 1 7 (nI (H + 1))) T) := by
  refine R_go 3 (pc' := 7) (L' := [some (.ref 3)]) (st' := [.int (M 1 7)]) (h' := mk M T) (fun _ => rfl) ?_
  refine R_top (y := nI H) (hH) ?_
  refine R_if 2 (c := (nI H) < 6) (t := 18) (f := 12) (L' := [some (.ref 3)]) (st' := []) (h' := mk M T) (fun _ => rfl) (fun h1 => ?_) (fun h1 => ?_)
  · replace h1 : H < 6 := (nI_ltI (a := H) (b := 6) (by omega) (by omega)).mp h1
    refine R_go 4 (pc' := 26) (L' := [some (.ref 3)]) (st' := [.int (M 1 7), .ref 4]) (h' := mk M T) (fun _ => rfl) ?_
    refine R_top (y := nI H) (hH) ?_
    refine R_go 2 (pc' := 28) (L' := [some (.ref 3)]) (st' := [.int (nI H + 1), .ref 4]) (h' := mk M T) (fun _ => rfl) ?_
    refine R_top (nI_add H 1) ?_
    refine R_go 4 (pc' := 38) (L' := [some (.ref 3)]) (st' := [.int ((up M 1 7 (nI (H + 1))) 1 7)]) (h' := mk (up M 1 7 (nI (H + 1))) T) (fun _ => rfl) ?_
    refine R_top (y := nI (H + 1)) (rfl) ?_
    refine R_go 2 (pc' := 40) (L' := [some (.ref 3)]) (st' := [.int (nI (H + 1) - 1)]) (h' := mk (up M 1 7 (nI (H + 1))) T) (fun _ => rfl) ?_
    refine R_top (nI_pred H) ?_
    refine R_ret 1 (pcr := 40) (v := some (.int (nI H))) (h' := mk (up M 1 7 (nI (H + 1))) T) (fun _ => rfl) ?_
    exact ⟨rfl, rfl⟩
  · replace h1 : ¬ H < 6 := fun q => h1 ((nI_ltI (a := H) (b := 6) (by omega) (by omega)).mpr q)
    omega
set_option maxRecDepth 100000 in
set_option maxHeartbeats 4000000 in
theorem x_heir_full {ro : xRO} {d : Nat} {M : xM} {T : Nat} (hH : M 1 7 = nI 6) : Rn ro (d + 90) M_X7_heir 0 [some (.ref 3)] [] (mk M T) (fun r h => r = some (.int (-1000000004)) ∧ h = mk (up M 60 4 (M 60 4 + 1)) T) := by
  refine R_go 3 (pc' := 7) (L' := [some (.ref 3)]) (st' := [.int (M 1 7)]) (h' := mk M T) (fun _ => rfl) ?_
  refine R_top (y := 6) (hH) ?_
  refine R_go 4 (pc' := 14) (L' := [some (.ref 3)]) (st' := [.int 4, .ref 3]) (h' := mk M T) (fun _ => rfl) ?_
  refine R_callD (i := .invokevirtual 75) (kd := 0) (y := M_X7_error) (as := [.ref 3, .int 4]) (r := []) (L0 := [some (.ref 3), some (.int 4)]) (v := some (.int (-1000000004))) (h' := mk (up M 60 4 (M 60 4 + 1)) T) (pc' := 17) (st' := [.int (-1000000004)]) rfl rfl rfl rfl rfl rfl (c_error_4) ?_
  refine R_ret 1 (pcr := 17) (v := some (.int (-1000000004))) (h' := mk (up M 60 4 (M 60 4 + 1)) T) (fun _ => rfl) ?_
  exact ⟨rfl, rfl⟩
set_option maxRecDepth 100000 in
set_option maxHeartbeats 4000000 in
theorem m_heir_in {ro : xRO} {d : Nat} {M : xM} {T : Nat} {H : Nat} (hH : M 62 7 = nI H) (h6 : H < 6) : Rn ro (d + 90) M_X8_heir 0 [some (.ref 64), none] [] (mk M T) (fun r h => r = some (.int (nI H)) ∧ h = mk (up (up M 62 7 (nI (H + 1))) 62 (66 + H) 0) T) := by
  refine R_go 4 (pc' := 7) (L' := [some (.ref 64), none]) (st' := [.int (M 62 7)]) (h' := mk M T) (fun _ => rfl) ?_
  refine R_top (y := nI H) (hH) ?_
  refine R_ifn 4 (c := (nI H) = 6) (t := 21) (f := 14) (L' := [some (.ref 64), some (.int (nI H))]) (st' := []) (h' := mk M T) (fun _ => rfl) (fun h1 => ?_) (fun h1 => ?_)
  · replace h1 : ¬ H = 6 := fun q => h1 ((nI_eq (a := H) (b := 6) (by omega) (by omega)).mpr q)
    refine R_go 5 (pc' := 29) (L' := [some (.ref 64), some (.int (nI H))]) (st' := [.int (M 62 7), .int 7, .ref 65]) (h' := mk M T) (fun _ => rfl) ?_
    refine R_top (y := nI H) (hH) ?_
    refine R_go 2 (pc' := 31) (L' := [some (.ref 64), some (.int (nI H))]) (st' := [.int (nI H + 1), .int 7, .ref 65]) (h' := mk M T) (fun _ => rfl) ?_
    refine R_top (nI_add H 1) ?_
    refine R_go 6 (pc' := 40) (L' := [some (.ref 64), some (.int (nI H))]) (st' := [.int (66 + nI H), .ref 65]) (h' := mk (up M 62 7 (nI (H + 1))) T) (fun _ => rfl) ?_
    refine R_top (nI_add 66 H) ?_
    refine R_go 1 (pc' := 41) (L' := [some (.ref 64), some (.int (nI H))]) (st' := [.int 0, .int (nI (66 + H)), .ref 65]) (h' := mk (up M 62 7 (nI (H + 1))) T) (fun _ => rfl) ?_
    refine R_iast (c := 62) (n := 398) (j := 66 + H) rfl rfl (by omega) (by decide) ?_
    refine R_ret 2 (pcr := 43) (v := some (.int (nI H))) (h' := mk (up (up M 62 7 (nI (H + 1))) 62 (66 + H) 0) T) (fun _ => rfl) ?_
    exact ⟨rfl, rfl⟩
  · replace h1 : H = 6 := (nI_eq (a := H) (b := 6) (by omega) (by omega)).mp h1
    omega
set_option maxRecDepth 100000 in
set_option maxHeartbeats 4000000 in
theorem m_heir_full {ro : xRO} {d : Nat} {M : xM} {T : Nat} (hH : M 62 7 = nI 6) : Rn ro (d + 90) M_X8_heir 0 [some (.ref 64), none] [] (mk M T) (fun r h => r = some (.int (-1000000004)) ∧ h = mk (up M 64 4 (M 64 4 + 1)) T) := by
  refine R_go 4 (pc' := 7) (L' := [some (.ref 64), none]) (st' := [.int (M 62 7)]) (h' := mk M T) (fun _ => rfl) ?_
  refine R_top (y := 6) (hH) ?_
  refine R_go 6 (pc' := 17) (L' := [some (.ref 64), some (.int 6)]) (st' := [.int (-1000000004), .ref 64]) (h' := mk M T) (fun _ => rfl) ?_
  refine R_callD (i := .invokevirtual 81) (kd := 0) (y := M_X8_error) (as := [.ref 64, .int (-1000000004)]) (r := []) (L0 := [some (.ref 64), some (.int (-1000000004))]) (v := some (.int (-1000000004))) (h' := mk (up M 64 4 (M 64 4 + 1)) T) (pc' := 20) (st' := [.int (-1000000004)]) rfl rfl rfl rfl rfl rfl (m_error_4) ?_
  refine R_ret 1 (pcr := 20) (v := some (.int (-1000000004))) (h' := mk (up M 64 4 (M 64 4 + 1)) T) (fun _ => rfl) ?_
  exact ⟨rfl, rfl⟩
set_option maxHeartbeats 4000000 in
theorem op_heir {ro : xRO} {M : xM} {T : Nat} (h : Rel M)  : OpOK ro M_X7_heir M_X8_heir [some (.ref 3)] [some (.ref 64), none] M T := by
  obtain ⟨P, H, h8, h6, pm, hm, px, hx, a, b1, b2, b3, b4, c2, c3, c4, c5⟩ := rel_all h
  rcases Nat.lt_or_ge H 6 with q | q
  · refine OpOK.of (fun d => x_heir_in hx q) (fun d => m_heir_in (H := H) hm q) rfl ?_
    refine h.now ?_ ?_ ?_ ?_ ?_ ?_ ?_ P (H + 1) ?_ ?_ ?_ ?_ ?_
    · intro c x y; simp only [up_ne x, up_ne (show c ≠ 1 from fun q => y (by omega)), up_ne (show c ≠ 11 from fun q => y (by omega)), up_ne (show c ≠ 12 from fun q => y (by omega)), up_ne (show c ≠ 13 from fun q => y (by omega))]
    · intro j hj; simp only [up_rd]; grind
    · unfold hsA; simp only [up_rd]; grind
    · intro p j hp hj; have := b1 p j hp hj; simp only [up_rd]; grind
    · intro i hi; have := b2 i hi; have := c5 i hi; simp only [up_rd]; grind
    · intro i hi; have := b3 i hi; simp only [up_rd]; grind
    · intro i hi; have := b4 i hi; simp only [up_rd]; grind
    · unfold rwA; simp only [up_rd]; grind
    · unfold rwB; simp only [up_rd]; grind
    · intro p hp; have := c3 p hp; simp only [up_rd]; grind
    · intro p hp; obtain ⟨he, e1, e2⟩ := c4 p (by omega); exact ⟨he, by omega, by simp only [up_rd]; grind⟩
    · intro i hi; have := c5 i hi; have : iN 0 99999 := ⟨0, by omega, rfl⟩; simp only [up_rd]; grind
  · obtain rfl : H = 6 := by omega
    exact OpOK.of (fun d => x_heir_full hx) (fun d => m_heir_full hm) rfl (h.err 4 (by omega))
set_option maxRecDepth 100000 in
set_option maxHeartbeats 4000000 in
theorem x_seed {ro : xRO} {d : Nat} {M : xM} {T : Nat} {v : Int32} : Rn ro (d + 90) M_X7_seed 0 [some (.ref 3), some (.int v), none] [] (mk M T) (fun r h => r = some (.int (M 1 15)) ∧ h = mk (up M 1 15 v) T) := by
  refine R_ret 10 (pcr := 17) (v := some (.int (M 1 15))) (h' := mk (up M 1 15 v) T) (fun _ => rfl) ?_
  exact ⟨rfl, rfl⟩
set_option maxRecDepth 100000 in
set_option maxHeartbeats 4000000 in
theorem m_seed {ro : xRO} {d : Nat} {M : xM} {T : Nat} {v : Int32} : Rn ro (d + 90) M_X8_seed 0 [some (.ref 64), some (.int v)] [] (mk M T) (fun r h => r = some (.int (M 62 5)) ∧ h = mk (up M 62 5 v) T) := by
  refine R_go 3 (pc' := 3) (L' := [some (.ref 64), some (.int v)]) (st' := [.int v, .int 5, .ref 64]) (h' := mk M T) (fun _ => rfl) ?_
  refine R_callD (i := .invokevirtual 95) (kd := 0) (y := M_X8_becomes) (as := [.ref 64, .int 5, .int v]) (r := []) (L0 := [some (.ref 64), some (.int 5), some (.int v), none]) (v := some (.int (M 62 5))) (h' := mk (up M 62 5 v) T) (pc' := 6) (st' := [.int (M 62 5)]) rfl rfl rfl rfl rfl rfl (m_becomes (j := 5) (by omega)) ?_
  refine R_ret 1 (pcr := 6) (v := some (.int (M 62 5))) (h' := mk (up M 62 5 v) T) (fun _ => rfl) ?_
  exact ⟨rfl, rfl⟩
set_option maxHeartbeats 4000000 in
theorem op_seed {ro : xRO} {M : xM} {T : Nat} (h : Rel M) {v : Int32} : OpOK ro M_X7_seed M_X8_seed [some (.ref 3), some (.int v), none] [some (.ref 64), some (.int v)] M T := by
  obtain ⟨P, H, h8, h6, pm, hm, px, hx, a, b1, b2, b3, b4, c2, c3, c4, c5⟩ := rel_all h
  refine OpOK.of (fun d => x_seed) (fun d => m_seed) (by (try simp only [up_rd]); grind) ?_
  refine h.now ?_ ?_ ?_ ?_ ?_ ?_ ?_ P H ?_ ?_ ?_ ?_ ?_
  · intro c x y; simp only [up_ne x, up_ne (show c ≠ 1 from fun q => y (by omega)), up_ne (show c ≠ 11 from fun q => y (by omega)), up_ne (show c ≠ 12 from fun q => y (by omega)), up_ne (show c ≠ 13 from fun q => y (by omega))]
  · intro j hj; simp only [up_rd]; grind
  · unfold hsA; simp only [up_rd]; grind
  · intro p j hp hj; have := b1 p j hp hj; simp only [up_rd]; grind
  · intro i hi; have := b2 i hi; have := c5 i hi; simp only [up_rd]; grind
  · intro i hi; have := b3 i hi; simp only [up_rd]; grind
  · intro i hi; have := b4 i hi; simp only [up_rd]; grind
  · unfold rwA; simp only [up_rd]; grind
  · unfold rwB; simp only [up_rd]; grind
  · intro p hp; have := c3 p hp; simp only [up_rd]; grind
  · intro p hp; obtain ⟨he, e1, e2⟩ := c4 p (by omega); exact ⟨he, by omega, by simp only [up_rd]; grind⟩
  · intro i hi; have := c5 i hi; have : iN 0 99999 := ⟨0, by omega, rfl⟩; simp only [up_rd]; grind
theorem nI_ne1 {n : Nat} (h : n < 2 ^ 31) : ¬ nI n = (-1) := fun q => by
  have h1 := nI_pos' h
  rw [q] at h1
  exact absurd h1 (by decide)
set_option maxRecDepth 100000 in
set_option maxHeartbeats 4000000 in
theorem x_has_in {ro : xRO} {d : Nat} {M : xM} {T : Nat} {H : Nat} (hH : M 1 7 = nI H) (h6 : H ≤ 6) {n : Nat} (hn : n < H) : Rn ro (d + 90) M_X7_has 0 [some (.ref 3), some (.int (nI n))] [] (mk M T) (fun r h => r = some (.int (M 11 n)) ∧ h = mk M T) := by
  refine R_ifn 3 (c := (nI n) = (-1)) (t := 13) (f := 5) (L' := [some (.ref 3), some (.int (nI n))]) (st' := []) (h' := mk M T) (fun _ => rfl) (fun h1 => ?_) (fun h1 => ?_)
  · refine R_go 3 (pc' := 18) (L' := [some (.ref 3), some (.int (nI n))]) (st' := [.int (nI n), .ref 4]) (h' := mk M T) (fun _ => rfl) ?_
    refine R_call2 (i := .invokevirtual 82) (kd := 0) (y := M_X0_hasHeir) (as := [.ref 4, .int (nI n)]) (r := []) (L0 := [some (.ref 4), some (.int (nI n))]) (v1 := some (.int 1)) (v2 := some (.int 0)) (h1' := mk M T) (h2' := mk M T) (pc' := 21) (st1 := [.int 1]) (st2 := [.int 0]) rfl rfl rfl rfl rfl rfl (c_hasHeir hH h6) (fun h2 => ?_) (fun h2 => ?_)
    · refine R_go 4 (pc' := 29) (L' := [some (.ref 3), some (.int (nI n))]) (st' := [.int (nI n), .ref 4]) (h' := mk M T) (fun _ => rfl) ?_
      refine R_callD (i := .invokevirtual 136) (kd := 0) (y := M_X0_purse) (as := [.ref 4, .int (nI n)]) (r := []) (L0 := [some (.ref 4), some (.int (nI n))]) (v := some (.int (M 11 n))) (h' := mk M T) (pc' := 32) (st' := [.int (M 11 n)]) rfl rfl rfl rfl rfl rfl (c_purse (n := n) (by omega)) ?_
      refine R_ret 2 (pcr := 40) (v := some (.int (M 11 n))) (h' := mk M T) (fun _ => rfl) ?_
      exact ⟨rfl, rfl⟩
    · exact absurd (⟨nI_pos' (by omega), nI_lt hn (by omega)⟩) h2
  · exact absurd h1 (nI_ne1 (by omega))
set_option maxRecDepth 100000 in
set_option maxHeartbeats 4000000 in
theorem m_has_in {ro : xRO} {d : Nat} {M : xM} {T : Nat} {H : Nat} (hH : M 62 7 = nI H) (h6 : H ≤ 6) {n : Nat} (hn : n < H) : Rn ro (d + 90) M_X8_has 0 [some (.ref 64), some (.int (nI n))] [] (mk M T) (fun r h => r = some (.int (M 62 (66 + n))) ∧ h = mk M T) := by
  refine R_ifn 3 (c := (nI n) = (-1)) (t := 12) (f := 5) (L' := [some (.ref 64), some (.int (nI n))]) (st' := []) (h' := mk M T) (fun _ => rfl) (fun h1 => ?_) (fun h1 => ?_)
  · refine R_go 2 (pc' := 14) (L' := [some (.ref 64), some (.int (nI n))]) (st' := [.int (nI n), .ref 64]) (h' := mk M T) (fun _ => rfl) ?_
    refine R_call2 (i := .invokevirtual 88) (kd := 0) (y := M_X8_isHeir) (as := [.ref 64, .int (nI n)]) (r := []) (L0 := [some (.ref 64), some (.int (nI n))]) (v1 := some (.int 1)) (v2 := some (.int 0)) (h1' := mk M T) (h2' := mk M T) (pc' := 17) (st1 := [.int 1]) (st2 := [.int 0]) rfl rfl rfl rfl rfl rfl (m_isHeir hH h6) (fun h2 => ?_) (fun h2 => ?_)
    · refine R_go 6 (pc' := 28) (L' := [some (.ref 64), some (.int (nI n))]) (st' := [.int (66 + nI n), .ref 65]) (h' := mk M T) (fun _ => rfl) ?_
      refine R_top (nI_add 66 n) ?_
      refine R_iald (c := 62) (n := 398) (j := 66 + n) rfl rfl (by omega) (by decide) ?_
      refine R_ret 2 (pcr := 38) (v := some (.int (M 62 (66 + n)))) (h' := mk M T) (fun _ => rfl) ?_
      exact ⟨rfl, rfl⟩
    · exact absurd (⟨nI_pos' (by omega), nI_lt hn (by omega)⟩) h2
  · exact absurd h1 (nI_ne1 (by omega))
set_option maxRecDepth 100000 in
set_option maxHeartbeats 4000000 in
theorem x_has_ch {ro : xRO} {d : Nat} {M : xM} {T : Nat}  : Rn ro (d + 90) M_X7_has 0 [some (.ref 3), some (.int (-1))] [] (mk M T) (fun r h => r = some (.int (M 1 10)) ∧ h = mk M T) := by
  refine R_ret 7 (pcr := 12) (v := some (.int (M 1 10))) (h' := mk M T) (fun _ => rfl) ?_
  exact ⟨rfl, rfl⟩
set_option maxRecDepth 100000 in
set_option maxHeartbeats 4000000 in
theorem m_has_ch {ro : xRO} {d : Nat} {M : xM} {T : Nat}  : Rn ro (d + 90) M_X8_has 0 [some (.ref 64), some (.int (-1))] [] (mk M T) (fun r h => r = some (.int (M 62 4)) ∧ h = mk M T) := by
  refine R_ret 8 (pcr := 11) (v := some (.int (M 62 4))) (h' := mk M T) (fun _ => rfl) ?_
  exact ⟨rfl, rfl⟩
set_option maxRecDepth 100000 in
set_option maxHeartbeats 4000000 in
theorem x_has_out {ro : xRO} {d : Nat} {M : xM} {T : Nat} {H : Nat} (hH : M 1 7 = nI H) (h6 : H ≤ 6) {i : Int32} (hi : ¬ (0 ≤ i ∧ i < nI H)) (h1 : ¬ i = (-1)) : Rn ro (d + 90) M_X7_has 0 [some (.ref 3), some (.int i)] [] (mk M T) (fun r h => r = some (.int (-1000000001)) ∧ h = mk (up M 60 1 (M 60 1 + 1)) T) := by
  refine R_ifn 3 (c := i = (-1)) (t := 13) (f := 5) (L' := [some (.ref 3), some (.int i)]) (st' := []) (h' := mk M T) (fun _ => rfl) (fun g1 => ?_) (fun g1 => ?_)
  · refine R_go 3 (pc' := 18) (L' := [some (.ref 3), some (.int i)]) (st' := [.int i, .ref 4]) (h' := mk M T) (fun _ => rfl) ?_
    refine R_call2 (i := .invokevirtual 82) (kd := 0) (y := M_X0_hasHeir) (as := [.ref 4, .int i]) (r := []) (L0 := [some (.ref 4), some (.int i)]) (v1 := some (.int 1)) (v2 := some (.int 0)) (h1' := mk M T) (h2' := mk M T) (pc' := 21) (st1 := [.int 1]) (st2 := [.int 0]) rfl rfl rfl rfl rfl rfl (c_hasHeir hH h6) (fun g2 => ?_) (fun g2 => ?_)
    · exact absurd g2 (hi)
    · refine R_go 3 (pc' := 37) (L' := [some (.ref 3), some (.int i)]) (st' := [.int 1, .ref 3]) (h' := mk M T) (fun _ => rfl) ?_
      refine R_callD (i := .invokevirtual 75) (kd := 0) (y := M_X7_error) (as := [.ref 3, .int 1]) (r := []) (L0 := [some (.ref 3), some (.int 1)]) (v := some (.int (-1000000001))) (h' := mk (up M 60 1 (M 60 1 + 1)) T) (pc' := 40) (st' := [.int (-1000000001)]) rfl rfl rfl rfl rfl rfl (c_error_1) ?_
      refine R_ret 1 (pcr := 40) (v := some (.int (-1000000001))) (h' := mk (up M 60 1 (M 60 1 + 1)) T) (fun _ => rfl) ?_
      exact ⟨rfl, rfl⟩
  · exact absurd g1 (h1)
set_option maxRecDepth 100000 in
set_option maxHeartbeats 4000000 in
theorem m_has_out {ro : xRO} {d : Nat} {M : xM} {T : Nat} {H : Nat} (hH : M 62 7 = nI H) (h6 : H ≤ 6) {i : Int32} (hi : ¬ (0 ≤ i ∧ i < nI H)) (h1 : ¬ i = (-1)) : Rn ro (d + 90) M_X8_has 0 [some (.ref 64), some (.int i)] [] (mk M T) (fun r h => r = some (.int (-1000000001)) ∧ h = mk (up M 64 1 (M 64 1 + 1)) T) := by
  refine R_ifn 3 (c := i = (-1)) (t := 12) (f := 5) (L' := [some (.ref 64), some (.int i)]) (st' := []) (h' := mk M T) (fun _ => rfl) (fun g1 => ?_) (fun g1 => ?_)
  · refine R_go 2 (pc' := 14) (L' := [some (.ref 64), some (.int i)]) (st' := [.int i, .ref 64]) (h' := mk M T) (fun _ => rfl) ?_
    refine R_call2 (i := .invokevirtual 88) (kd := 0) (y := M_X8_isHeir) (as := [.ref 64, .int i]) (r := []) (L0 := [some (.ref 64), some (.int i)]) (v1 := some (.int 1)) (v2 := some (.int 0)) (h1' := mk M T) (h2' := mk M T) (pc' := 17) (st1 := [.int 1]) (st2 := [.int 0]) rfl rfl rfl rfl rfl rfl (m_isHeir hH h6) (fun g2 => ?_) (fun g2 => ?_)
    · exact absurd g2 (hi)
    · refine R_go 3 (pc' := 35) (L' := [some (.ref 64), some (.int i)]) (st' := [.int (-1000000001), .ref 64]) (h' := mk M T) (fun _ => rfl) ?_
      refine R_callD (i := .invokevirtual 81) (kd := 0) (y := M_X8_error) (as := [.ref 64, .int (-1000000001)]) (r := []) (L0 := [some (.ref 64), some (.int (-1000000001))]) (v := some (.int (-1000000001))) (h' := mk (up M 64 1 (M 64 1 + 1)) T) (pc' := 38) (st' := [.int (-1000000001)]) rfl rfl rfl rfl rfl rfl (m_error_1) ?_
      refine R_ret 1 (pcr := 38) (v := some (.int (-1000000001))) (h' := mk (up M 64 1 (M 64 1 + 1)) T) (fun _ => rfl) ?_
      exact ⟨rfl, rfl⟩
  · exact absurd g1 (h1)
set_option maxHeartbeats 4000000 in
theorem op_has {ro : xRO} {M : xM} {T : Nat} (h : Rel M) {i : Int32} : OpOK ro M_X7_has M_X8_has [some (.ref 3), some (.int i)] [some (.ref 64), some (.int i)] M T := by
  obtain ⟨P, H, h8, h6, pm, hm, px, hx, a, b1, b2, b3, b4, c2, c3, c4, c5⟩ := rel_all h
  rcases nI_cases i H (by omega) with ⟨n, hn, rfl⟩ | hi
  · refine OpOK.of (fun d => x_has_in hx h6 hn) (fun d => m_has_in hm h6 hn) (by (try simp only [up_rd]); grind) ?_
    exact h
  · by_cases h1 : i = (-1)
    · subst h1
      refine OpOK.of (fun d => x_has_ch) (fun d => m_has_ch) (by (try simp only [up_rd]); grind) ?_
      exact h
    · exact OpOK.of (fun d => x_has_out hx h6 hi h1) (fun d => m_has_out (M := up M 60 1 (M 60 1 + 1)) hm h6 hi h1) rfl (h.err 1 (by omega))
