/-! OPERATIONS image, restore -/
theorem rwI_congr {f f' : Nat → Int32} (h : rwI f) (hr : ∀ j, j < 398 → f' j = f j) : rwI f' := by
  obtain ⟨P, H, h1, h2, h3, h4, h5, h6⟩ := h
  obtain ⟨a1, a2, a3, a4⟩ := h1
  refine ⟨P, H, ⟨(hr 6 (by omega)).trans a1, a2, (hr 7 (by omega)).trans a3, a4⟩, ?_, ?_, ?_, ?_, ?_⟩
  · unfold rwB
    rw [hr 8 (by omega), hr 9 (by omega), hr 0 (by omega), hr 1 (by omega), hr 2 (by omega), hr 3 (by omega), hr 4 (by omega)]
    exact h2
  · intro p hp
    rw [hr _ (by omega), hr _ (by omega), hr _ (by omega), hr _ (by omega), hr _ (by omega), hr _ (by omega), hr _ (by omega)]
    exact h3 p hp
  · intro p hp
    obtain ⟨he, e1, e2⟩ := h4 p hp
    exact ⟨he, e1, (hr _ (by omega)).trans e2⟩
  · intro i hi
    rw [hr _ (by omega)]
    exact h5 i hi
  · refine ⟨?_, ?_⟩
    · rw [hr 156 (by omega)]
      exact h6.1.congr (fun i hi => hr _ (by omega)) (fun i hi => hr _ (by omega))
    · rw [hr 277 (by omega)]
      exact h6.2.congr (fun i hi => hr _ (by omega)) (fun i hi => hr _ (by omega))
theorem hsR_copy {M M' : xM} {a b r r' : Nat} (h : hsR M b r) (hi : rwI (M r)) (f1 : ∀ j, 6 ≤ j → j ≤ 15 → M' a j = M b j) (f2 : ∀ p j, p < 8 → j < 7 → M' (a + 2 + p) j = M (b + 2 + p) j) (f3 : (∀ i, i < 6 → M' (a + 10) i = M (b + 10) i) ∧ (∀ i, i < 60 → M' (a + 11) i = M (b + 11) i) ∧ (∀ i, i < 24 → M' (a + 12) i = M (b + 12) i) ∧ (M' (a + 13) 2 = M (b + 13) 2 ∧ ∀ i, i < 60 → M' (a + 14) i = M (b + 14) i) ∧ (M' (a + 16) 2 = M (b + 16) 2 ∧ ∀ i, i < 60 → M' (a + 17) i = M (b + 17) i)) (hr : ∀ j, j < 398 → M' r' j = M r j) : hsR M' a r' ∧ rwI (M' r') := by
  obtain ⟨g1, g2, g3, g4, g5, g6⟩ := h
  refine ⟨⟨?_, fun p j hp hj => ?_, fun i hi => ?_, fun i hi => ?_, fun i hi => ?_, ?_⟩, rwI_congr hi hr⟩
  · unfold hsA
    rw [f1 6 (by omega) (by omega), f1 7 (by omega) (by omega), f1 8 (by omega) (by omega), f1 9 (by omega) (by omega), f1 10 (by omega) (by omega), f1 11 (by omega) (by omega), f1 12 (by omega) (by omega), f1 13 (by omega) (by omega), f1 14 (by omega) (by omega), f1 15 (by omega) (by omega), hr 6 (by omega), hr 7 (by omega), hr 8 (by omega), hr 9 (by omega), hr 4 (by omega), hr 0 (by omega), hr 1 (by omega), hr 2 (by omega), hr 3 (by omega), hr 5 (by omega)]
    exact g1
  · rw [f2 p j hp hj, hr _ (by omega)]; exact g2 p j hp hj
  · rw [f3.1 i hi, hr _ (by omega)]; exact g3 i hi
  · rw [f3.2.1 i hi, hr _ (by omega)]; exact g4 i hi
  · rw [f3.2.2.1 i hi, hr _ (by omega)]; exact g5 i hi
  · obtain ⟨P, H, -, -, -, -, -, t1, t2⟩ := hi
    obtain ⟨k1, k11, k12, -⟩ := t1
    obtain ⟨k2, k21, k22, -⟩ := t2
    unfold hsT
    rw [hr 156 (by omega), hr 277 (by omega), f3.2.2.2.1.1, f3.2.2.2.2.1]
    refine ⟨⟨g6.1.1, fun k hk => ?_⟩, g6.2.1, fun k hk => ?_⟩
    · have k60 : k < 60 := by rw [k12, nI_clamp (by omega)] at hk; omega
      rw [f3.2.2.2.1.2 k k60, hr _ (by omega), hr _ (by omega)]
      exact g6.1.2 k hk
    · have k60 : k < 60 := by rw [k22, nI_clamp (by omega)] at hk; omega
      rw [f3.2.2.2.2.2 k k60, hr _ (by omega), hr _ (by omega)]
      exact g6.2.2 k hk
def caM (M : xM) (a b : Nat) : Nat → xM
  | 0 => M
  | n + 1 => up (caM M a b n) b n (caM M a b n a n)
theorem caM_rd {M : xM} {a b x y : Nat} (h : a ≠ b) : ∀ {n : Nat}, caM M a b n x y = if x = b ∧ y < n then M a y else M x y := by
  intro n
  induction n generalizing x y with
  | zero => rw [if_neg (by omega)]; rfl
  | succ n ih =>
    show up (caM M a b n) b n (caM M a b n a n) x y = _
    rw [up_rd, ih, ih]
    grind
theorem caM_ne {M : xM} {a b x : Nat} (h : a ≠ b) (hx : x ≠ b) {n : Nat} : caM M a b n x = M x := by
  funext y
  rw [caM_rd h, if_neg (fun q => hx q.1)]
set_option maxRecDepth 100000 in
set_option maxHeartbeats 4000000 in
theorem lp_copy_63 {ro : xRO} {d : Nat} {M : xM} {T : Nat}   : ∀ (k : Nat) (i : Nat), i + k = 398 →  Rn ro (d) M_X8_copyAll 2 [some (.ref 65), some (.ref 66), some (.int (nI i))] [] (mk (caM M 62 63 i) T) (fun r h => r = none ∧ h = mk (caM M 62 63 398) T) := by
  intro k
  induction k with
  | zero =>
    intro i hi
    obtain rfl : i = 398 := by omega
    refine R_ret 4 (pcr := 21) (v := none) (h' := mk (caM M 62 63 398) T) (fun _ => rfl) ?_
    exact ⟨rfl, rfl⟩
  | succ k ih =>
    intro i hi
    refine R_if 3 (c := 398 ≤ (nI i)) (t := 21) (f := 9) (L' := [some (.ref 65), some (.ref 66), some (.int (nI i))]) (st' := []) (h' := mk (caM M 62 63 i) T) (fun _ => rfl) (fun g1 => ?_) (fun g1 => ?_)
    · replace g1 : 398 ≤ i := (nI_leI (a := 398) (b := i) (by omega) (by omega)).mp g1
      omega
    · replace g1 : ¬ 398 ≤ i := fun q => g1 ((nI_leI (a := 398) (b := i) (by omega) (by omega)).mpr q)
      refine R_go 4 (pc' := 13) (L' := [some (.ref 65), some (.ref 66), some (.int (nI i))]) (st' := [.int (nI i), .ref 65, .int (nI i), .ref 66]) (h' := mk (caM M 62 63 i) T) (fun _ => rfl) ?_
      refine R_iald (c := 62) (n := 398) (j := i) rfl rfl (by omega) (by decide) ?_
      refine R_iast (c := 63) (n := 398) (j := i) rfl rfl (by omega) (by decide) ?_
      refine R_go 1 (pc' := 18) (L' := [some (.ref 65), some (.ref 66), some (.int ((nI i) + 1))]) (st' := []) (h' := mk (up (caM M 62 63 i) 63 i ((caM M 62 63 i) 62 i)) T) (fun _ => rfl) ?_
      rw [nI_1]
      refine R_go 1 (pc' := 2) (L' := [some (.ref 65), some (.ref 66), some (.int (nI (i + 1)))]) (st' := []) (h' := mk (up (caM M 62 63 i) 63 i ((caM M 62 63 i) 62 i)) T) (fun _ => rfl) ?_
      exact ih (i + 1) (by omega)
set_option maxRecDepth 100000 in
set_option maxHeartbeats 4000000 in
theorem c_copy_63 {ro : xRO} {d : Nat} {M : xM} {T : Nat}  : Rn ro d M_X8_copyAll 0 [some (.ref 65), some (.ref 66), none] [] (mk M T) (fun r h => r = none ∧ h = mk (caM M 62 63 398) T) := by
  refine R_go 2 (pc' := 2) (L' := [some (.ref 65), some (.ref 66), some (.int 0)]) (st' := []) (h' := mk M T) (fun _ => rfl) ?_
  exact lp_copy_63 398 0 rfl
set_option maxRecDepth 100000 in
set_option maxHeartbeats 4000000 in
theorem lp_copy_62 {ro : xRO} {d : Nat} {M : xM} {T : Nat}   : ∀ (k : Nat) (i : Nat), i + k = 398 →  Rn ro (d) M_X8_copyAll 2 [some (.ref 66), some (.ref 65), some (.int (nI i))] [] (mk (caM M 63 62 i) T) (fun r h => r = none ∧ h = mk (caM M 63 62 398) T) := by
  intro k
  induction k with
  | zero =>
    intro i hi
    obtain rfl : i = 398 := by omega
    refine R_ret 4 (pcr := 21) (v := none) (h' := mk (caM M 63 62 398) T) (fun _ => rfl) ?_
    exact ⟨rfl, rfl⟩
  | succ k ih =>
    intro i hi
    refine R_if 3 (c := 398 ≤ (nI i)) (t := 21) (f := 9) (L' := [some (.ref 66), some (.ref 65), some (.int (nI i))]) (st' := []) (h' := mk (caM M 63 62 i) T) (fun _ => rfl) (fun g1 => ?_) (fun g1 => ?_)
    · replace g1 : 398 ≤ i := (nI_leI (a := 398) (b := i) (by omega) (by omega)).mp g1
      omega
    · replace g1 : ¬ 398 ≤ i := fun q => g1 ((nI_leI (a := 398) (b := i) (by omega) (by omega)).mpr q)
      refine R_go 4 (pc' := 13) (L' := [some (.ref 66), some (.ref 65), some (.int (nI i))]) (st' := [.int (nI i), .ref 66, .int (nI i), .ref 65]) (h' := mk (caM M 63 62 i) T) (fun _ => rfl) ?_
      refine R_iald (c := 63) (n := 398) (j := i) rfl rfl (by omega) (by decide) ?_
      refine R_iast (c := 62) (n := 398) (j := i) rfl rfl (by omega) (by decide) ?_
      refine R_go 1 (pc' := 18) (L' := [some (.ref 66), some (.ref 65), some (.int ((nI i) + 1))]) (st' := []) (h' := mk (up (caM M 63 62 i) 62 i ((caM M 63 62 i) 63 i)) T) (fun _ => rfl) ?_
      rw [nI_1]
      refine R_go 1 (pc' := 2) (L' := [some (.ref 66), some (.ref 65), some (.int (nI (i + 1)))]) (st' := []) (h' := mk (up (caM M 63 62 i) 62 i ((caM M 63 62 i) 63 i)) T) (fun _ => rfl) ?_
      exact ih (i + 1) (by omega)
set_option maxRecDepth 100000 in
set_option maxHeartbeats 4000000 in
theorem c_copy_62 {ro : xRO} {d : Nat} {M : xM} {T : Nat}  : Rn ro d M_X8_copyAll 0 [some (.ref 66), some (.ref 65), none] [] (mk M T) (fun r h => r = none ∧ h = mk (caM M 63 62 398) T) := by
  refine R_go 2 (pc' := 2) (L' := [some (.ref 66), some (.ref 65), some (.int 0)]) (st' := []) (h' := mk M T) (fun _ => rfl) ?_
  exact lp_copy_62 398 0 rfl
theorem c_copyE_63 {ro : xRO} {d : Nat} {M : xM} {T : Nat} : Rn ro d M_X8_copyAll 0 [some (.ref 65), some (.ref 66), none] [] (mk M T) (fun r h => ∃ x, x = caM M 62 63 398 ∧ r = none ∧ h = mk x T) :=
  c_copy_63.imp (fun _ _ q => ⟨_, rfl, q.1, q.2⟩)
theorem c_copyE_62 {ro : xRO} {d : Nat} {M : xM} {T : Nat} : Rn ro d M_X8_copyAll 0 [some (.ref 66), some (.ref 65), none] [] (mk M T) (fun r h => ∃ x, x = caM M 63 62 398 ∧ r = none ∧ h = mk x T) :=
  c_copy_62.imp (fun _ _ q => ⟨_, rfl, q.1, q.2⟩)
theorem c_hLikeE_20 {ro : xRO} {d : Nat} {M : xM} {T : Nat} : Rn ro (d + 1) M_X0_becomeLike 0 [some (.ref 23), some (.ref 4), none, none, none] [] (mk M T) (fun r h => ∃ x, x = NH_20 M ∧ r = none ∧ h = mk x T) :=
  c_hLike_20.imp (fun _ _ q => ⟨_, rfl, q.1, q.2⟩)
theorem c_hLikeE_1 {ro : xRO} {d : Nat} {M : xM} {T : Nat} : Rn ro (d + 1) M_X0_becomeLike 0 [some (.ref 4), some (.ref 23), none, none, none] [] (mk M T) (fun r h => ∃ x, x = NH_1 M ∧ r = none ∧ h = mk x T) :=
  c_hLike_1.imp (fun _ _ q => ⟨_, rfl, q.1, q.2⟩)
set_option maxRecDepth 100000 in
set_option maxHeartbeats 4000000 in
theorem x_image {ro : xRO} {d : Nat} {M : xM} {T : Nat}  : Rn ro (d + 90) M_X7_image 0 [some (.ref 3)] [] (mk M T) (fun r h => r = some (.int (M 0 7 + 1)) ∧ h = mk (up (NH_20 M) 0 7 (M 0 7 + 1)) T) := by
  refine R_go 4 (pc' := 8) (L' := [some (.ref 3)]) (st' := [.ref 4, .ref 23]) (h' := mk M T) (fun _ => rfl) ?_
  refine R_callE (i := .invokevirtual 283) (kd := 0) (y := M_X0_becomeLike) (as := [.ref 23, .ref 4]) (r := []) (L0 := [some (.ref 23), some (.ref 4), none, none, none]) (v := fun M1 => none) (h' := fun M1 => mk M1 T) (pc' := 11) (st' := fun M1 => []) rfl rfl rfl rfl rfl rfl (c_hLikeE_20) (fun M1 g1 => ?_)
  refine R_ret 9 (pcr := 25) (v := some (.int ((up M1 0 7 ((M1 0 7) + 1)) 0 7))) (h' := mk (up M1 0 7 ((M1 0 7) + 1)) T) (fun _ => rfl) ?_
  exact ⟨by rw [up_at, g1, nh20_ne (Or.inl (by omega))], by rw [g1, nh20_ne (Or.inl (by omega))]⟩
set_option maxRecDepth 100000 in
set_option maxHeartbeats 4000000 in
theorem m_image {ro : xRO} {d : Nat} {M : xM} {T : Nat}  : Rn ro (d + 90) M_X8_image 0 [some (.ref 64)] [] (mk M T) (fun r h => r = some (.int (M 61 2 + 1)) ∧ h = mk (up (caM M 62 63 398) 61 2 (M 61 2 + 1)) T) := by
  refine R_go 4 (pc' := 8) (L' := [some (.ref 64)]) (st' := [.ref 66, .ref 65]) (h' := mk M T) (fun _ => rfl) ?_
  refine R_callE (i := .invokestatic 256) (kd := 1) (y := M_X8_copyAll) (as := [.ref 65, .ref 66]) (r := []) (L0 := [some (.ref 65), some (.ref 66), none]) (v := fun M1 => none) (h' := fun M1 => mk M1 T) (pc' := 11) (st' := fun M1 => []) rfl rfl rfl rfl rfl rfl (c_copyE_63) (fun M1 g1 => ?_)
  refine R_ret 9 (pcr := 25) (v := some (.int ((up M1 61 2 ((M1 61 2) + 1)) 61 2))) (h' := mk (up M1 61 2 ((M1 61 2) + 1)) T) (fun _ => rfl) ?_
  exact ⟨by rw [up_at, g1, caM_ne (by omega) (by omega)], by rw [g1, caM_ne (by omega) (by omega)]⟩
set_option maxRecDepth 100000 in
set_option maxHeartbeats 4000000 in
theorem x_restore_n {ro : xRO} {d : Nat} {M : xM} {T : Nat} (h0 : M 0 7 = 0) : Rn ro (d + 90) M_X7_restore 0 [some (.ref 3)] [] (mk M T) (fun r h => r = some (.int (-1000000002)) ∧ h = mk (up M 60 2 (M 60 2 + 1)) T) := by
  refine R_ifn 3 (c := (M 0 7) = 0) (t := 13) (f := 7) (L' := [some (.ref 3)]) (st' := []) (h' := mk M T) (fun _ => rfl) (fun g1 => ?_) (fun g1 => ?_)
  · exact absurd (h0) g1
  · refine R_go 2 (pc' := 9) (L' := [some (.ref 3)]) (st' := [.int 2, .ref 3]) (h' := mk M T) (fun _ => rfl) ?_
    refine R_callD (i := .invokevirtual 75) (kd := 0) (y := M_X7_error) (as := [.ref 3, .int 2]) (r := []) (L0 := [some (.ref 3), some (.int 2)]) (v := some (.int (-1000000002))) (h' := mk (up M 60 2 (M 60 2 + 1)) T) (pc' := 12) (st' := [.int (-1000000002)]) rfl rfl rfl rfl rfl rfl (c_error_2) ?_
    refine R_ret 1 (pcr := 12) (v := some (.int (-1000000002))) (h' := mk (up M 60 2 (M 60 2 + 1)) T) (fun _ => rfl) ?_
    exact ⟨rfl, rfl⟩
set_option maxRecDepth 100000 in
set_option maxHeartbeats 4000000 in
theorem m_restore_n {ro : xRO} {d : Nat} {M : xM} {T : Nat} (h0 : M 61 2 = 0) : Rn ro (d + 90) M_X8_restore 0 [some (.ref 64)] [] (mk M T) (fun r h => r = some (.int (-1000000002)) ∧ h = mk (up M 64 2 (M 64 2 + 1)) T) := by
  refine R_ifn 3 (c := (M 61 2) = 0) (t := 14) (f := 7) (L' := [some (.ref 64)]) (st' := []) (h' := mk M T) (fun _ => rfl) (fun g1 => ?_) (fun g1 => ?_)
  · exact absurd (h0) g1
  · refine R_go 2 (pc' := 10) (L' := [some (.ref 64)]) (st' := [.int (-1000000002), .ref 64]) (h' := mk M T) (fun _ => rfl) ?_
    refine R_callD (i := .invokevirtual 81) (kd := 0) (y := M_X8_error) (as := [.ref 64, .int (-1000000002)]) (r := []) (L0 := [some (.ref 64), some (.int (-1000000002))]) (v := some (.int (-1000000002))) (h' := mk (up M 64 2 (M 64 2 + 1)) T) (pc' := 13) (st' := [.int (-1000000002)]) rfl rfl rfl rfl rfl rfl (m_error_2) ?_
    refine R_ret 1 (pcr := 13) (v := some (.int (-1000000002))) (h' := mk (up M 64 2 (M 64 2 + 1)) T) (fun _ => rfl) ?_
    exact ⟨rfl, rfl⟩
set_option maxRecDepth 100000 in
set_option maxHeartbeats 4000000 in
theorem x_restore_i {ro : xRO} {d : Nat} {M : xM} {T : Nat} (h0 : ¬ M 0 7 = 0) : Rn ro (d + 90) M_X7_restore 0 [some (.ref 3)] [] (mk M T) (fun r h => r = some (.int (NH_1 M 1 14)) ∧ h = mk (NH_1 M) T) := by
  refine R_ifn 3 (c := (M 0 7) = 0) (t := 13) (f := 7) (L' := [some (.ref 3)]) (st' := []) (h' := mk M T) (fun _ => rfl) (fun g1 => ?_) (fun g1 => ?_)
  · refine R_go 4 (pc' := 21) (L' := [some (.ref 3)]) (st' := [.ref 23, .ref 4]) (h' := mk M T) (fun _ => rfl) ?_
    refine R_callE (i := .invokevirtual 283) (kd := 0) (y := M_X0_becomeLike) (as := [.ref 4, .ref 23]) (r := []) (L0 := [some (.ref 4), some (.ref 23), none, none, none]) (v := fun M1 => none) (h' := fun M1 => mk M1 T) (pc' := 24) (st' := fun M1 => []) rfl rfl rfl rfl rfl rfl (c_hLikeE_1) (fun M1 g2 => ?_)
    refine R_ret 4 (pcr := 31) (v := some (.int (M1 1 14))) (h' := mk M1 T) (fun _ => rfl) ?_
    exact ⟨by rw [g2], by rw [g2]⟩
  · exact absurd g1 (h0)
set_option maxRecDepth 100000 in
set_option maxHeartbeats 4000000 in
theorem m_restore_i {ro : xRO} {d : Nat} {M : xM} {T : Nat} (h0 : ¬ M 61 2 = 0) : Rn ro (d + 90) M_X8_restore 0 [some (.ref 64)] [] (mk M T) (fun r h => r = some (.int (caM M 63 62 398 62 3)) ∧ h = mk (caM M 63 62 398) T) := by
  refine R_ifn 3 (c := (M 61 2) = 0) (t := 14) (f := 7) (L' := [some (.ref 64)]) (st' := []) (h' := mk M T) (fun _ => rfl) (fun g1 => ?_) (fun g1 => ?_)
  · refine R_go 4 (pc' := 22) (L' := [some (.ref 64)]) (st' := [.ref 65, .ref 66]) (h' := mk M T) (fun _ => rfl) ?_
    refine R_callE (i := .invokestatic 256) (kd := 1) (y := M_X8_copyAll) (as := [.ref 66, .ref 65]) (r := []) (L0 := [some (.ref 66), some (.ref 65), none]) (v := fun M1 => none) (h' := fun M1 => mk M1 T) (pc' := 25) (st' := fun M1 => []) rfl rfl rfl rfl rfl rfl (c_copyE_62) (fun M1 g2 => ?_)
    refine R_ret 5 (pcr := 31) (v := some (.int (M1 62 3))) (h' := mk M1 T) (fun _ => rfl) ?_
    exact ⟨by rw [g2], by rw [g2]⟩
  · exact absurd g1 (h0)
set_option maxHeartbeats 4000000 in
theorem op_image {ro : xRO} {M : xM} {T : Nat} (h : Rel M)  : OpOK ro M_X7_image M_X8_image [some (.ref 3)] [some (.ref 64)] M T := by
  obtain ⟨P, H, h8, h6, pm, hm, px, hx, a, b1, b2, b3, b4, c2, c3, c4, c5⟩ := rel_all h
  have k := h.2.1.1
  refine OpOK.of (fun d => x_image) (fun d => m_image) ?_ ?_
  · show up (NH_20 M) 0 7 _ 61 2 + 1 = _
    rw [up_ne (by omega), nh20_ne (Or.inr (by omega)), k]
  · obtain ⟨M2, e2⟩ : ∃ M2, M2 = up (caM (up (NH_20 M) 0 7 (M 0 7 + 1)) 62 63 398) 61 2 (up (NH_20 M) 0 7 (M 0 7 + 1) 61 2 + 1) := ⟨_, rfl⟩
    rw [← e2]
    have fr : ∀ c, c ≠ 0 → c ≠ 61 → c ≠ 63 → ¬ (20 ≤ c ∧ c ≤ 38) → M2 c = M c := fun c a1 a2 a3 a4 => by
      rw [e2, up_ne a2, caM_ne (by omega) a3, up_ne a1, nh20_ne (by omega)]
    have fh : ∀ c, 20 ≤ c → c ≤ 38 → M2 c = NH_20 M c := fun c a1 a2 => by
      rw [e2, up_ne (by omega), caM_ne (by omega) (by omega), up_ne (by omega)]
    have f61 : ∀ j, j ≠ 2 → M2 61 j = M 61 j := fun j hj => by
      rw [e2, up_nj hj, caM_ne (by omega) (by omega), up_ne (by omega), nh20_ne (Or.inr (by omega))]
    have f0 : M2 0 7 = M 0 7 + 1 := by
      rw [e2, up_ne (by omega), caM_ne (by omega) (by omega), up_at]
    have f612 : M2 61 2 = M 61 2 + 1 := by
      rw [e2, up_at, up_ne (by omega), nh20_ne (Or.inr (by omega))]
    have f63 : ∀ j, j < 398 → M2 63 j = M 62 j := fun j hj => by
      rw [e2, up_ne (by omega), caM_rd (by omega), if_pos ⟨rfl, hj⟩, up_ne (by omega), nh20_ne (Or.inr (by omega))]
    have cp := hsR_copy (M := M) (M' := M2) (a := 20) (b := 1) (r := 62) (r' := 63) h.1.1 h.1.2 (fun j j1 j2 => by rw [fh 20 (by omega) (by omega)]; exact nh20_f j j1 j2) (fun p j hp hj => by rw [fh _ (by omega) (by omega)]; exact nh20_p p j hp hj) (by rw [fh _ (by omega) (by omega), fh _ (by omega) (by omega), fh _ (by omega) (by omega), fh _ (by omega) (by omega), fh _ (by omega) (by omega), fh _ (by omega) (by omega), fh _ (by omega) (by omega)]; exact nh20_a) f63
    exact ⟨⟨h.1.1.frame (fun c a1 a2 => fr c (by omega) (by omega) (by omega) (by omega)) (fr 62 (by omega) (by omega) (by omega) (by omega)), by rw [fr 62 (by omega) (by omega) (by omega) (by omega)]; exact h.1.2⟩, ⟨by rw [f0, f612, k], fun _ => cp⟩, h.2.2.1.frame (fun c a1 a2 => fr c (by omega) (by omega) (by omega) (by omega)) (fr 65 (by omega) (by omega) (by omega) (by omega)) (fr 66 (by omega) (by omega) (by omega) (by omega)) (fr 67 (by omega) (by omega) (by omega) (by omega)), fun k k1 k2 => by rw [fr 60 (by omega) (by omega) (by omega) (by omega), fr 64 (by omega) (by omega) (by omega) (by omega)]; exact h.2.2.2.1 k k1 k2, h.2.2.2.2.1.frame (by rw [fr 49 (by omega) (by omega) (by omega) (by omega)]) (f61 22 (by omega)) (fr 50 (by omega) (by omega) (by omega) (by omega)) (fr 75 (by omega) (by omega) (by omega) (by omega)), by rw [f61 7 (by omega)]; exact h.2.2.2.2.2⟩
set_option maxHeartbeats 4000000 in
theorem op_restore {ro : xRO} {M : xM} {T : Nat} (h : Rel M)  : OpOK ro M_X7_restore M_X8_restore [some (.ref 3)] [some (.ref 64)] M T := by
  obtain ⟨P, H, h8, h6, pm, hm, px, hx, a, b1, b2, b3, b4, c2, c3, c4, c5⟩ := rel_all h
  have k := h.2.1.1
  by_cases h0 : M 61 2 = 0
  · exact OpOK.of (fun d => x_restore_n (k.trans h0)) (fun d => m_restore_n (M := up M 60 2 (M 60 2 + 1)) h0) rfl (h.err 2 (by omega))
  · have hk := h.2.1.2 h0
    have e61 : ¬ NH_1 M 61 2 = 0 := by rw [nh1_ne (Or.inr (by omega))]; exact h0
    obtain ⟨M2, e2⟩ : ∃ M2, M2 = caM (NH_1 M) 63 62 398 := ⟨_, rfl⟩
    have fr : ∀ c, c ≠ 62 → ¬ (1 ≤ c ∧ c ≤ 19) → M2 c = M c := fun c a1 a2 => by
      rw [e2, caM_ne (by omega) a1, nh1_ne (by omega)]
    have fh : ∀ c, 1 ≤ c → c ≤ 19 → M2 c = NH_1 M c := fun c a1 a2 => by
      rw [e2, caM_ne (by omega) (by omega)]
    have f62 : ∀ j, j < 398 → M2 62 j = M 63 j := fun j hj => by
      rw [e2, caM_rd (by omega), if_pos ⟨rfl, hj⟩, nh1_ne (Or.inr (by omega))]
    have cp := hsR_copy (M := M) (M' := M2) (a := 1) (b := 20) (r := 63) (r' := 62) hk.1 hk.2 (fun j j1 j2 => by rw [fh 1 (by omega) (by omega)]; exact nh1_f j j1 j2) (fun p j hp hj => by rw [fh _ (by omega) (by omega)]; exact nh1_p p j hp hj) (by rw [fh _ (by omega) (by omega), fh _ (by omega) (by omega), fh _ (by omega) (by omega), fh _ (by omega) (by omega), fh _ (by omega) (by omega), fh _ (by omega) (by omega), fh _ (by omega) (by omega)]; exact nh1_a) f62
    refine OpOK.of (fun d => x_restore_i (fun q => h0 (k.symm.trans q))) (fun d => m_restore_i (M := NH_1 M) e61) ?_ ?_
    · rw [← e2, f62 3 (by omega), nh1_f 14 (by omega) (by omega)]
      exact hk.1.1.2.2.2.2.2.2.2.2.1.symm
    · rw [← e2]
      exact ⟨cp, h.2.1.frame (by rw [fr 0 (by omega) (by omega)]) (by rw [fr 61 (by omega) (by omega)]) (fun c a1 a2 => fr c (by omega) (by omega)) (fr 63 (by omega) (by omega)), h.2.2.1.frame (fun c a1 a2 => fr c (by omega) (by omega)) (fr 65 (by omega) (by omega)) (fr 66 (by omega) (by omega)) (fr 67 (by omega) (by omega)), fun k k1 k2 => by rw [fr 60 (by omega) (by omega), fr 64 (by omega) (by omega)]; exact h.2.2.2.1 k k1 k2, h.2.2.2.2.1.frame (by rw [fr 49 (by omega) (by omega)]) (by rw [fr 61 (by omega) (by omega)]) (fr 50 (by omega) (by omega)) (fr 75 (by omega) (by omega)), by rw [fr 61 (by omega) (by omega)]; exact h.2.2.2.2.2⟩
