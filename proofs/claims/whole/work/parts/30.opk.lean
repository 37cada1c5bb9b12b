/-! OPERATIONS: untell, body -/
theorem Rel.txt {M M' : xM} (h : Rel M) (hf : ∀ c, c ≠ 62 → ¬ (14 ≤ c ∧ c ≤ 19) → M' c = M c) (hr : ∀ j, j < 156 → M' 62 j = M 62 j) (h1 : hsT M' 1 62) (h2 : rwT (M' 62)) : Rel M' := by
  obtain ⟨⟨⟨q1, q2, q3, q4, q5, q6⟩, P, H, r1, r2, r3, r4, r5, r6⟩, s2, s3, s4, s5, s6⟩ := h
  refine ⟨⟨⟨?_, fun p j hp hj => ?_, fun i hi => ?_, fun i hi => ?_, fun i hi => ?_, h1⟩, P, H, ?_, ?_, fun p hp => ?_, fun p hp => ?_, fun i hi => ?_, h2⟩, s2.frame (by rw [hf 0 (by omega) (by omega)]) (by rw [hf 61 (by omega) (by omega)]) (fun c a b => hf c (by omega) (by omega)) (hf 63 (by omega) (by omega)), s3.frame (fun c a b => hf c (by omega) (by omega)) (hf 65 (by omega) (by omega)) (hf 66 (by omega) (by omega)) (hf 67 (by omega) (by omega)), fun k a b => by rw [hf 60 (by omega) (by omega), hf 64 (by omega) (by omega)]; exact s4 k a b, s5.frame (by rw [hf 49 (by omega) (by omega)]) (by rw [hf 61 (by omega) (by omega)]) (hf 50 (by omega) (by omega)) (hf 75 (by omega) (by omega)), by rw [hf 61 (by omega) (by omega)]; exact s6⟩
  · unfold hsA
    rw [hf 1 (by omega) (by omega), hr 6 (by omega), hr 7 (by omega), hr 8 (by omega), hr 9 (by omega), hr 4 (by omega), hr 0 (by omega), hr 1 (by omega), hr 2 (by omega), hr 3 (by omega), hr 5 (by omega)]
    exact q1
  · rw [hf _ (by omega) (by omega), hr _ (by omega)]; exact q2 p j hp hj
  · rw [hf _ (by omega) (by omega), hr _ (by omega)]; exact q3 i hi
  · rw [hf _ (by omega) (by omega), hr _ (by omega)]; exact q4 i hi
  · rw [hf _ (by omega) (by omega), hr _ (by omega)]; exact q5 i hi
  · unfold rwA
    rw [hr 6 (by omega), hr 7 (by omega)]
    exact r1
  · unfold rwB
    rw [hr 8 (by omega), hr 9 (by omega), hr 4 (by omega), hr 0 (by omega), hr 1 (by omega), hr 2 (by omega), hr 3 (by omega)]
    exact r2
  · rw [hr _ (by omega), hr _ (by omega), hr _ (by omega), hr _ (by omega), hr _ (by omega), hr _ (by omega), hr _ (by omega)]
    exact r3 p hp
  · have hP := r1.2.1
    obtain ⟨he, e1, e2⟩ := r4 p hp
    exact ⟨he, e1, by rw [hr _ (by omega)]; exact e2⟩
  · rw [hr _ (by omega)]
    exact r5 i hi
theorem stkT_congr {a a' : Nat → Int32} : ∀ k, (∀ i, i < k → a' i = a i) → stkT a' k = stkT a k := by
  intro k
  induction k with
  | zero => intro _; rfl
  | succ k ih =>
    intro h
    unfold stkT
    rw [ih (fun i hi => h i (by omega)), h k (by omega)]
theorem wfT.congr {n : Int32} {a a' w w' : Nat → Int32} (h : wfT n a w) (ha : ∀ i, i < 60 → a' i = a i) (hw : ∀ i, i < 60 → w' i = w i) : wfT n a' w' := by
  obtain ⟨k, k60, hn, hs, hk⟩ := h
  refine ⟨k, k60, hn, ?_, fun i hi => ?_⟩
  · rw [stkT_congr k (fun i hi => ha i (by omega))]
    exact hs
  · rw [ha i (by omega), hw i (by omega)]
    exact hk i hi
theorem wfT_0 (a w : Nat → Int32) : wfT 0 a w := ⟨0, by omega, rfl, Or.inl rfl, fun i hi => absurd hi (by omega)⟩
set_option maxRecDepth 100000 in
set_option maxHeartbeats 4000000 in
theorem x_untell_0 {ro : xRO} {d : Nat} {M : xM} {T : Nat} {k : Nat} (hk : M 14 2 = nI k) (k60 : k ≤ 60) : Rn ro (d + 90) M_X7_untell 0 [some (.ref 3), some (.int 0), none, none] [] (mk M T) (fun r h => r = some (.int (nI (if 0 < k then 1 else 0))) ∧ h = mk (up M 14 2 0) T) := by
  refine R_go 3 (pc' := 5) (L' := [some (.ref 3), some (.int 0), none, none]) (st' := [.int 0, .ref 4]) (h' := mk M T) (fun _ => rfl) ?_
  refine R_callD (i := .invokevirtual 149) (kd := 0) (y := M_X0_textOf) (as := [.ref 4, .int 0]) (r := []) (L0 := [some (.ref 4), some (.int 0)]) (v := some (.ref 17)) (h' := mk M T) (pc' := 8) (st' := [.ref 17]) rfl rfl rfl rfl rfl rfl (c_textOf_0) ?_
  refine R_go 5 (pc' := 23) (L' := [some (.ref 3), some (.int 0), some (.ref 17), none]) (st' := [.int (M 14 2)]) (h' := mk M T) (fun _ => rfl) ?_
  refine R_top (y := nI k) (hk) ?_
  refine R_if 1 (c := (nI k) ≤ 0) (t := 30) (f := 26) (L' := [some (.ref 3), some (.int 0), some (.ref 17), none]) (st' := []) (h' := mk M T) (fun _ => rfl) (fun g1 => ?_) (fun g1 => ?_)
  · replace g1 : k ≤ 0 := (nI_leI (a := k) (b := 0) (by omega) (by omega)).mp g1
    refine R_ret 7 (pcr := 38) (v := some (.int 0)) (h' := mk (up M 14 2 0) T) (fun _ => rfl) ?_
    exact ⟨by rw [if_neg (by omega)]; rfl, rfl⟩
  · replace g1 : ¬ k ≤ 0 := fun q => g1 ((nI_leI (a := k) (b := 0) (by omega) (by omega)).mpr q)
    refine R_ret 8 (pcr := 38) (v := some (.int 1)) (h' := mk (up M 14 2 0) T) (fun _ => rfl) ?_
    exact ⟨by rw [if_pos (by omega)]; rfl, rfl⟩
set_option maxRecDepth 100000 in
set_option maxHeartbeats 4000000 in
theorem m_untell_0 {ro : xRO} {d : Nat} {M : xM} {T : Nat} {k : Nat} (hk : M 62 156 = nI k) (k60 : k ≤ 60) : Rn ro (d + 90) M_X8_untell 0 [some (.ref 64), some (.int 0)] [] (mk M T) (fun r h => r = some (.int (nI (if 0 < k then 1 else 0))) ∧ h = mk (up M 62 156 0) T) := by
  refine R_go 3 (pc' := 3) (L' := [some (.ref 64), some (.int 0)]) (st' := [.int 1, .int 0, .int 0]) (h' := mk M T) (fun _ => rfl) ?_
  refine R_call2 (i := .invokestatic 53) (kd := 1) (y := M_X8_in) (as := [.int 0, .int 0, .int 1]) (r := []) (L0 := [some (.int 0), some (.int 0), some (.int 1)]) (v1 := some (.int 1)) (v2 := some (.int 0)) (h1' := mk M T) (h2' := mk M T) (pc' := 6) (st1 := [.int 1]) (st2 := [.int 0]) rfl rfl rfl rfl rfl rfl (m_in) (fun g1 => ?_) (fun g1 => ?_)
  · refine R_go 8 (pc' := 26) (L' := [some (.ref 64), some (.int 0)]) (st' := [.int 0, .int 156, .ref 64]) (h' := mk M T) (fun _ => rfl) ?_
    refine R_callD (i := .invokevirtual 95) (kd := 0) (y := M_X8_becomes) (as := [.ref 64, .int 156, .int 0]) (r := []) (L0 := [some (.ref 64), some (.int 156), some (.int 0), none]) (v := some (.int (M 62 156))) (h' := mk (up M 62 156 0) T) (pc' := 29) (st' := [.int (M 62 156)]) rfl rfl rfl rfl rfl rfl (m_becomes (j := 156) (by omega)) ?_
    refine R_top (y := nI k) hk ?_
    refine R_if 1 (c := (nI k) ≤ 0) (t := 36) (f := 32) (L' := [some (.ref 64), some (.int 0)]) (st' := []) (h' := mk (up M 62 156 0) T) (fun _ => rfl) (fun g2 => ?_) (fun g2 => ?_)
    · replace g2 : k ≤ 0 := (nI_leI (a := k) (b := 0) (by omega) (by omega)).mp g2
      refine R_ret 2 (pcr := 37) (v := some (.int 0)) (h' := mk (up M 62 156 0) T) (fun _ => rfl) ?_
      exact ⟨by rw [if_neg (by omega)]; rfl, rfl⟩
    · replace g2 : ¬ k ≤ 0 := fun q => g2 ((nI_leI (a := k) (b := 0) (by omega) (by omega)).mpr q)
      refine R_ret 3 (pcr := 37) (v := some (.int 1)) (h' := mk (up M 62 156 0) T) (fun _ => rfl) ?_
      exact ⟨by rw [if_pos (by omega)]; rfl, rfl⟩
  · exact absurd ((by decide)) g1
set_option maxRecDepth 100000 in
set_option maxHeartbeats 4000000 in
theorem x_untell_1 {ro : xRO} {d : Nat} {M : xM} {T : Nat} {k : Nat} (hk : M 17 2 = nI k) (k60 : k ≤ 60) : Rn ro (d + 90) M_X7_untell 0 [some (.ref 3), some (.int 1), none, none] [] (mk M T) (fun r h => r = some (.int (nI (if 0 < k then 1 else 0))) ∧ h = mk (up M 17 2 0) T) := by
  refine R_go 3 (pc' := 5) (L' := [some (.ref 3), some (.int 1), none, none]) (st' := [.int 1, .ref 4]) (h' := mk M T) (fun _ => rfl) ?_
  refine R_callD (i := .invokevirtual 149) (kd := 0) (y := M_X0_textOf) (as := [.ref 4, .int 1]) (r := []) (L0 := [some (.ref 4), some (.int 1)]) (v := some (.ref 20)) (h' := mk M T) (pc' := 8) (st' := [.ref 20]) rfl rfl rfl rfl rfl rfl (c_textOf_1) ?_
  refine R_go 5 (pc' := 23) (L' := [some (.ref 3), some (.int 1), some (.ref 20), none]) (st' := [.int (M 17 2)]) (h' := mk M T) (fun _ => rfl) ?_
  refine R_top (y := nI k) (hk) ?_
  refine R_if 1 (c := (nI k) ≤ 0) (t := 30) (f := 26) (L' := [some (.ref 3), some (.int 1), some (.ref 20), none]) (st' := []) (h' := mk M T) (fun _ => rfl) (fun g1 => ?_) (fun g1 => ?_)
  · replace g1 : k ≤ 0 := (nI_leI (a := k) (b := 0) (by omega) (by omega)).mp g1
    refine R_ret 7 (pcr := 38) (v := some (.int 0)) (h' := mk (up M 17 2 0) T) (fun _ => rfl) ?_
    exact ⟨by rw [if_neg (by omega)]; rfl, rfl⟩
  · replace g1 : ¬ k ≤ 0 := fun q => g1 ((nI_leI (a := k) (b := 0) (by omega) (by omega)).mpr q)
    refine R_ret 8 (pcr := 38) (v := some (.int 1)) (h' := mk (up M 17 2 0) T) (fun _ => rfl) ?_
    exact ⟨by rw [if_pos (by omega)]; rfl, rfl⟩
set_option maxRecDepth 100000 in
set_option maxHeartbeats 4000000 in
theorem m_untell_1 {ro : xRO} {d : Nat} {M : xM} {T : Nat} {k : Nat} (hk : M 62 277 = nI k) (k60 : k ≤ 60) : Rn ro (d + 90) M_X8_untell 0 [some (.ref 64), some (.int 1)] [] (mk M T) (fun r h => r = some (.int (nI (if 0 < k then 1 else 0))) ∧ h = mk (up M 62 277 0) T) := by
  refine R_go 3 (pc' := 3) (L' := [some (.ref 64), some (.int 1)]) (st' := [.int 1, .int 0, .int 1]) (h' := mk M T) (fun _ => rfl) ?_
  refine R_call2 (i := .invokestatic 53) (kd := 1) (y := M_X8_in) (as := [.int 1, .int 0, .int 1]) (r := []) (L0 := [some (.int 1), some (.int 0), some (.int 1)]) (v1 := some (.int 1)) (v2 := some (.int 0)) (h1' := mk M T) (h2' := mk M T) (pc' := 6) (st1 := [.int 1]) (st2 := [.int 0]) rfl rfl rfl rfl rfl rfl (m_in) (fun g1 => ?_) (fun g1 => ?_)
  · refine R_go 8 (pc' := 26) (L' := [some (.ref 64), some (.int 1)]) (st' := [.int 0, .int 277, .ref 64]) (h' := mk M T) (fun _ => rfl) ?_
    refine R_callD (i := .invokevirtual 95) (kd := 0) (y := M_X8_becomes) (as := [.ref 64, .int 277, .int 0]) (r := []) (L0 := [some (.ref 64), some (.int 277), some (.int 0), none]) (v := some (.int (M 62 277))) (h' := mk (up M 62 277 0) T) (pc' := 29) (st' := [.int (M 62 277)]) rfl rfl rfl rfl rfl rfl (m_becomes (j := 277) (by omega)) ?_
    refine R_top (y := nI k) hk ?_
    refine R_if 1 (c := (nI k) ≤ 0) (t := 36) (f := 32) (L' := [some (.ref 64), some (.int 1)]) (st' := []) (h' := mk (up M 62 277 0) T) (fun _ => rfl) (fun g2 => ?_) (fun g2 => ?_)
    · replace g2 : k ≤ 0 := (nI_leI (a := k) (b := 0) (by omega) (by omega)).mp g2
      refine R_ret 2 (pcr := 37) (v := some (.int 0)) (h' := mk (up M 62 277 0) T) (fun _ => rfl) ?_
      exact ⟨by rw [if_neg (by omega)]; rfl, rfl⟩
    · replace g2 : ¬ k ≤ 0 := fun q => g2 ((nI_leI (a := k) (b := 0) (by omega) (by omega)).mpr q)
      refine R_ret 3 (pcr := 37) (v := some (.int 1)) (h' := mk (up M 62 277 0) T) (fun _ => rfl) ?_
      exact ⟨by rw [if_pos (by omega)]; rfl, rfl⟩
  · exact absurd ((by decide)) g1
set_option maxRecDepth 100000 in
set_option maxHeartbeats 4000000 in
theorem x_untell_n {ro : xRO} {d : Nat} {M : xM} {T : Nat} {i : Int32} (u0 : ¬ i = 0) (u1 : ¬ i = 1) : Rn ro (d + 90) M_X7_untell 0 [some (.ref 3), some (.int i), none, none] [] (mk M T) (fun r h => r = some (.int (-1000000001)) ∧ h = mk (up M 60 1 (M 60 1 + 1)) T) := by
  refine R_go 3 (pc' := 5) (L' := [some (.ref 3), some (.int i), none, none]) (st' := [.int i, .ref 4]) (h' := mk M T) (fun _ => rfl) ?_
  refine R_callD (i := .invokevirtual 149) (kd := 0) (y := M_X0_textOf) (as := [.ref 4, .int i]) (r := []) (L0 := [some (.ref 4), some (.int i)]) (v := some (.null)) (h' := mk M T) (pc' := 8) (st' := [.null]) rfl rfl rfl rfl rfl rfl (c_textOf_n u0 u1) ?_
  refine R_go 5 (pc' := 15) (L' := [some (.ref 3), some (.int i), some (.null), none]) (st' := [.int 1, .ref 3]) (h' := mk M T) (fun _ => rfl) ?_
  refine R_callD (i := .invokevirtual 75) (kd := 0) (y := M_X7_error) (as := [.ref 3, .int 1]) (r := []) (L0 := [some (.ref 3), some (.int 1)]) (v := some (.int (-1000000001))) (h' := mk (up M 60 1 (M 60 1 + 1)) T) (pc' := 18) (st' := [.int (-1000000001)]) rfl rfl rfl rfl rfl rfl (c_error_1) ?_
  refine R_ret 1 (pcr := 18) (v := some (.int (-1000000001))) (h' := mk (up M 60 1 (M 60 1 + 1)) T) (fun _ => rfl) ?_
  exact ⟨rfl, rfl⟩
set_option maxRecDepth 100000 in
set_option maxHeartbeats 4000000 in
theorem m_untell_n {ro : xRO} {d : Nat} {M : xM} {T : Nat} {i : Int32} (u0 : ¬ i = 0) (u1 : ¬ i = 1) : Rn ro (d + 90) M_X8_untell 0 [some (.ref 64), some (.int i)] [] (mk M T) (fun r h => r = some (.int (-1000000001)) ∧ h = mk (up M 64 1 (M 64 1 + 1)) T) := by
  refine R_go 3 (pc' := 3) (L' := [some (.ref 64), some (.int i)]) (st' := [.int 1, .int 0, .int i]) (h' := mk M T) (fun _ => rfl) ?_
  refine R_call2 (i := .invokestatic 53) (kd := 1) (y := M_X8_in) (as := [.int i, .int 0, .int 1]) (r := []) (L0 := [some (.int i), some (.int 0), some (.int 1)]) (v1 := some (.int 1)) (v2 := some (.int 0)) (h1' := mk M T) (h2' := mk M T) (pc' := 6) (st1 := [.int 1]) (st2 := [.int 0]) rfl rfl rfl rfl rfl rfl (m_in) (fun g1 => ?_) (fun g1 => ?_)
  · exact absurd g1 ((by grind))
  · refine R_go 3 (pc' := 12) (L' := [some (.ref 64), some (.int i)]) (st' := [.int (-1000000001), .ref 64]) (h' := mk M T) (fun _ => rfl) ?_
    refine R_callD (i := .invokevirtual 81) (kd := 0) (y := M_X8_error) (as := [.ref 64, .int (-1000000001)]) (r := []) (L0 := [some (.ref 64), some (.int (-1000000001))]) (v := some (.int (-1000000001))) (h' := mk (up M 64 1 (M 64 1 + 1)) T) (pc' := 15) (st' := [.int (-1000000001)]) rfl rfl rfl rfl rfl rfl (m_error_1) ?_
    refine R_ret 1 (pcr := 15) (v := some (.int (-1000000001))) (h' := mk (up M 64 1 (M 64 1 + 1)) T) (fun _ => rfl) ?_
    exact ⟨rfl, rfl⟩
