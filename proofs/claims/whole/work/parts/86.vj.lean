/-! OPERATION text -/
def tpB (M : xM) (u : Nat) : xM := up (up (up (up (up M 61 16 (nI u)) 61 12 0) 61 13 0) 61 14 0) 61 15 0
theorem tpM_0 {M : xM} {L u : Nat} {f : Nat → Int32} (hL : M 62 8 = nI L) (hf : ∀ i, i < 60 → M 62 (72 + i) = f i) : tpM f L u M 0 (0, 0, fun _ => 0, fun _ => 0) (tpB M u) :=
  ⟨rfl, rfl, fun i hi => absurd hi (Nat.not_lt_zero i), ⟨rfl, rfl, rfl⟩, ⟨hL, hf⟩, fun c a b d => by unfold tpB; rw [up_ne a, up_ne a, up_ne a, up_ne a, up_ne a], fun j hj => by unfold tpB; rw [up_nj (by omega), up_nj (by omega), up_nj (by omega), up_nj (by omega), up_nj (by omega)]⟩
theorem mx_any {ro : xRO} {d T : Nat} {M : xM} {L u : Nat} {f : Nat → Int32} (h60 : L ≤ 60) (u1 : u ≤ 1) (hL : M 62 8 = nI L) (hf : ∀ i, i < 60 → M 62 (72 + i) = f i) : Rn ro (d + 89) M_X8_any 0 [some (.ref 64)] [] (mk (tpB M u) T) (tpP f L u M 0 T (tp_lev f L (tp_one f L u 5) 5 (0, 0, fun _ => 0, fun _ => 0))) :=
  tm_lev (d := d + 81) h60 (tp_one_ok (f := f) (u := u) 5) (fun s dep M hx ho => tm_one h60 u1 5 (d + 16) 0 s dep M (by omega) hx ho) _ 0 _ (tpM_0 hL hf) tpO_0
/-- steps are copied into the row -/
def tpC (M : xM) (a b : Nat) : Nat → xM
  | 0 => M
  | k + 1 => up (up (tpC M a b k) 62 (a + k) (tpC M a b k 68 k)) 62 (b + k) (up (tpC M a b k) 62 (a + k) (tpC M a b k 68 k) 69 k)
theorem tpC_ne {M : xM} {a b c : Nat} (h : c ≠ 62) : ∀ k, tpC M a b k c = M c := by
  intro k
  induction k with
  | zero => rfl
  | succ k ih =>
    unfold tpC
    rw [up_ne h, up_ne h]
    exact ih
theorem tpC_rd {M : xM} {a b j : Nat} (hb : b = a + 60) : ∀ k, k ≤ 60 → tpC M a b k 62 j = if a ≤ j ∧ j < a + k then M 68 (j - a) else if b ≤ j ∧ j < b + k then M 69 (j - b) else M 62 j := by
  intro k
  induction k with
  | zero =>
    intro _
    rw [if_neg (by omega), if_neg (by omega)]
    rfl
  | succ k ih =>
    intro hk
    have e8 : tpC M a b k 68 = M 68 := tpC_ne (by omega) k
    have e9 : tpC M a b k 69 = M 69 := tpC_ne (by omega) k
    unfold tpC
    rw [up_rd, up_ne (show 69 ≠ 62 by omega), up_rd, ih (by omega), e8, e9]
    by_cases q : j = b + k
    · rw [if_pos ⟨rfl, q⟩, if_neg (by omega), if_pos (by omega)]
      congr 1
      omega
    · rw [if_neg (fun z => q z.2)]
      by_cases q2 : j = a + k
      · rw [if_pos ⟨rfl, q2⟩, if_pos (by omega)]
        congr 1
        omega
      · rw [if_neg (fun z => q2 z.2)]
        by_cases q3 : a ≤ j ∧ j < a + k
        · rw [if_pos q3, if_pos (by omega)]
        · rw [if_neg q3, if_neg (by omega : ¬ (a ≤ j ∧ j < a + (k + 1)))]
          by_cases q4 : b ≤ j ∧ j < b + k
          · rw [if_pos q4, if_pos (by omega)]
          · rw [if_neg q4, if_neg (by omega)]
set_option maxRecDepth 100000 in
set_option maxHeartbeats 4000000 in
theorem m_text_f_0 {ro : xRO} {d : Nat} {M : xM} {T : Nat} {Q : Option Value → xH → Prop} {L p : Nat} (h60 : L ≤ 60) (hsub : Rn ro (d + 89) M_X8_any 0 [some (.ref 64)] [] (mk (up (up (up (up (up M 61 16 0) 61 12 0) 61 13 0) 61 14 0) 61 15 0) T) (fun rr h => ∃ M1, tpN L M p M1 ∧ rr = none ∧ h = mk M1 T))  (k1 : ∀ M1, tpN L M p M1 → Q (some (.int (-10 - nI p))) (mk (up (up M1 61 15 1) 62 8 0) T)) : Rn ro (d + 90) M_X8_text 0 [some (.ref 64), some (.int 0), none, none] [] (mk M T) Q := by
  refine R_go 3 (pc' := 3) (L' := [some (.ref 64), some (.int 0), none, none]) (st' := [.int 1, .int 0, .int 0]) (h' := mk M T) (fun _ => rfl) ?_
  refine R_call2 (i := .invokestatic 53) (kd := 1) (y := M_X8_in) (as := [.int 0, .int 0, .int 1]) (r := []) (L0 := [some (.int 0), some (.int 0), some (.int 1)]) (v1 := some (.int 1)) (v2 := some (.int 0)) (h1' := mk M T) (h2' := mk M T) (pc' := 6) (st1 := [.int 1]) (st2 := [.int 0]) rfl rfl rfl rfl rfl rfl (m_in) (fun g1 => ?_) (fun g1 => ?_)
  · refine R_go 17 (pc' := 42) (L' := [some (.ref 64), some (.int 0), none, none]) (st' := [.ref 64]) (h' := mk (up (up (up (up (up M 61 16 0) 61 12 0) 61 13 0) 61 14 0) 61 15 0) T) (fun _ => rfl) ?_
    refine R_callE (i := .invokevirtual 128) (kd := 0) (y := M_X8_any) (as := [.ref 64]) (r := []) (L0 := [some (.ref 64)]) (v := fun M1 => none) (h' := fun M1 => mk M1 T) (pc' := 45) (st' := fun M1 => []) rfl rfl rfl rfl rfl rfl (hsub) (fun M1 g2 => ?_)
    have hx1 := g2
    refine R_go 3 (pc' := 50) (L' := [some (.ref 64), some (.int 0), none, none]) (st' := [.int (M1 61 15), .ref 64]) (h' := mk M1 T) (fun _ => rfl) ?_
    refine R_top (y := 1) (hx1.2.2.1) ?_
    refine R_go 11 (pc' := 87) (L' := [some (.ref 64), some (.int 0), none, none]) (st' := [.int ((up (up M1 61 15 1) 62 8 0) 61 15)]) (h' := mk (up (up M1 61 15 1) 62 8 0) T) (fun _ => rfl) ?_
    refine R_top (y := 1) (rfl) ?_
    refine R_go 4 (pc' := 96) (L' := [some (.ref 64), some (.int 0), none, none]) (st' := [.int ((up (up M1 61 15 1) 62 8 0) 61 13), .int (-10)]) (h' := mk (up (up M1 61 15 1) 62 8 0) T) (fun _ => rfl) ?_
    refine R_top (y := nI p) (hx1.1) ?_
    refine R_ret 2 (pcr := 97) (v := some (.int ((-10) - (nI p)))) (h' := mk (up (up M1 61 15 1) 62 8 0) T) (fun _ => rfl) ?_
    exact k1 M1 hx1
  · exact absurd ((by decide)) g1
set_option maxRecDepth 100000 in
set_option maxHeartbeats 4000000 in
theorem m_text_n_0 {ro : xRO} {d : Nat} {M : xM} {T : Nat} {Q : Option Value → xH → Prop} {f : Nat → Int32} {L : Nat} (h60 : L ≤ 60) {s1 : tpS} (hlt : s1.1 < L) (hsub : Rn ro (d + 89) M_X8_any 0 [some (.ref 64)] [] (mk (up (up (up (up (up M 61 16 0) 61 12 0) 61 13 0) 61 14 0) 61 15 0) T) (fun rr h => ∃ M1, tpM f L 0 M 0 s1 M1 ∧ rr = none ∧ h = mk M1 T))  (k1 : ∀ M1, tpM f L 0 M 0 s1 M1 → Q (some (.int (-10 - nI s1.1))) (mk (up (up M1 61 15 1) 62 8 0) T)) : Rn ro (d + 90) M_X8_text 0 [some (.ref 64), some (.int 0), none, none] [] (mk M T) Q := by
  refine R_go 3 (pc' := 3) (L' := [some (.ref 64), some (.int 0), none, none]) (st' := [.int 1, .int 0, .int 0]) (h' := mk M T) (fun _ => rfl) ?_
  refine R_call2 (i := .invokestatic 53) (kd := 1) (y := M_X8_in) (as := [.int 0, .int 0, .int 1]) (r := []) (L0 := [some (.int 0), some (.int 0), some (.int 1)]) (v1 := some (.int 1)) (v2 := some (.int 0)) (h1' := mk M T) (h2' := mk M T) (pc' := 6) (st1 := [.int 1]) (st2 := [.int 0]) rfl rfl rfl rfl rfl rfl (m_in) (fun g1 => ?_) (fun g1 => ?_)
  · refine R_go 17 (pc' := 42) (L' := [some (.ref 64), some (.int 0), none, none]) (st' := [.ref 64]) (h' := mk (up (up (up (up (up M 61 16 0) 61 12 0) 61 13 0) 61 14 0) 61 15 0) T) (fun _ => rfl) ?_
    refine R_callE (i := .invokevirtual 128) (kd := 0) (y := M_X8_any) (as := [.ref 64]) (r := []) (L0 := [some (.ref 64)]) (v := fun M1 => none) (h' := fun M1 => mk M1 T) (pc' := 45) (st' := fun M1 => []) rfl rfl rfl rfl rfl rfl (hsub) (fun M1 g2 => ?_)
    have hx1 := g2
    refine R_go 3 (pc' := 50) (L' := [some (.ref 64), some (.int 0), none, none]) (st' := [.int (M1 61 15), .ref 64]) (h' := mk M1 T) (fun _ => rfl) ?_
    refine R_top (y := 0) (hx1.2.2.2.1.2.1) ?_
    refine R_go 3 (pc' := 57) (L' := [some (.ref 64), some (.int 0), none, none]) (st' := [.int (M1 61 13), .ref 64]) (h' := mk M1 T) (fun _ => rfl) ?_
    refine R_top (y := nI s1.1) (hx1.1) ?_
    refine R_go 4 (pc' := 64) (L' := [some (.ref 64), some (.int 0), none, none]) (st' := [.int (M1 62 8), .int (nI s1.1), .ref 64]) (h' := mk M1 T) (fun _ => rfl) ?_
    refine R_top (y := nI L) (hx1.2.2.2.2.1.1) ?_
    refine R_if 1 (c := (nI L) ≤ (nI s1.1)) (t := 71) (f := 67) (L' := [some (.ref 64), some (.int 0), none, none]) (st' := [.ref 64]) (h' := mk M1 T) (fun _ => rfl) (fun g3 => ?_) (fun g3 => ?_)
    · replace g3 : L ≤ s1.1 := (nI_leI (a := L) (b := s1.1) (by omega) (by omega)).mp g3
      omega
    · replace g3 : ¬ L ≤ s1.1 := fun q => g3 ((nI_leI (a := L) (b := s1.1) (by omega) (by omega)).mpr q)
      refine R_go 10 (pc' := 87) (L' := [some (.ref 64), some (.int 0), none, none]) (st' := [.int ((up (up M1 61 15 1) 62 8 0) 61 15)]) (h' := mk (up (up M1 61 15 1) 62 8 0) T) (fun _ => rfl) ?_
      refine R_top (y := 1) (rfl) ?_
      refine R_go 4 (pc' := 96) (L' := [some (.ref 64), some (.int 0), none, none]) (st' := [.int ((up (up M1 61 15 1) 62 8 0) 61 13), .int (-10)]) (h' := mk (up (up M1 61 15 1) 62 8 0) T) (fun _ => rfl) ?_
      refine R_top (y := nI s1.1) (hx1.1) ?_
      refine R_ret 2 (pcr := 97) (v := some (.int ((-10) - (nI s1.1)))) (h' := mk (up (up M1 61 15 1) 62 8 0) T) (fun _ => rfl) ?_
      exact k1 M1 hx1
  · exact absurd ((by decide)) g1
set_option maxRecDepth 100000 in
set_option maxHeartbeats 4000000 in
theorem m_text_g_0 {ro : xRO} {d : Nat} {M : xM} {T : Nat} {Q : Option Value → xH → Prop} {f : Nat → Int32} {L : Nat} (h60 : L ≤ 60) {s1 : tpS} (hle : s1.1 ≤ L) (hge : L ≤ s1.1) (hsub : Rn ro (d + 89) M_X8_any 0 [some (.ref 64)] [] (mk (up (up (up (up (up M 61 16 0) 61 12 0) 61 13 0) 61 14 0) 61 15 0) T) (fun rr h => ∃ M1, tpM f L 0 M 0 s1 M1 ∧ rr = none ∧ h = mk M1 T))  (k1 : ∀ M1, tpM f L 0 M 0 s1 M1 → Rn ro (d + 90) M_X8_text 119 [some (.ref 64), some (.int 0), some (.int 156), some (.int 0)] [] (mk (up (up (up M1 61 15 0) 62 8 0) 62 156 (nI s1.2.1)) T) Q) : Rn ro (d + 90) M_X8_text 0 [some (.ref 64), some (.int 0), none, none] [] (mk M T) Q := by
  refine R_go 3 (pc' := 3) (L' := [some (.ref 64), some (.int 0), none, none]) (st' := [.int 1, .int 0, .int 0]) (h' := mk M T) (fun _ => rfl) ?_
  refine R_call2 (i := .invokestatic 53) (kd := 1) (y := M_X8_in) (as := [.int 0, .int 0, .int 1]) (r := []) (L0 := [some (.int 0), some (.int 0), some (.int 1)]) (v1 := some (.int 1)) (v2 := some (.int 0)) (h1' := mk M T) (h2' := mk M T) (pc' := 6) (st1 := [.int 1]) (st2 := [.int 0]) rfl rfl rfl rfl rfl rfl (m_in) (fun g1 => ?_) (fun g1 => ?_)
  · refine R_go 17 (pc' := 42) (L' := [some (.ref 64), some (.int 0), none, none]) (st' := [.ref 64]) (h' := mk (up (up (up (up (up M 61 16 0) 61 12 0) 61 13 0) 61 14 0) 61 15 0) T) (fun _ => rfl) ?_
    refine R_callE (i := .invokevirtual 128) (kd := 0) (y := M_X8_any) (as := [.ref 64]) (r := []) (L0 := [some (.ref 64)]) (v := fun M1 => none) (h' := fun M1 => mk M1 T) (pc' := 45) (st' := fun M1 => []) rfl rfl rfl rfl rfl rfl (hsub) (fun M1 g2 => ?_)
    have hx1 := g2
    refine R_go 3 (pc' := 50) (L' := [some (.ref 64), some (.int 0), none, none]) (st' := [.int (M1 61 15), .ref 64]) (h' := mk M1 T) (fun _ => rfl) ?_
    refine R_top (y := 0) (hx1.2.2.2.1.2.1) ?_
    refine R_go 3 (pc' := 57) (L' := [some (.ref 64), some (.int 0), none, none]) (st' := [.int (M1 61 13), .ref 64]) (h' := mk M1 T) (fun _ => rfl) ?_
    refine R_top (y := nI s1.1) (hx1.1) ?_
    refine R_go 4 (pc' := 64) (L' := [some (.ref 64), some (.int 0), none, none]) (st' := [.int (M1 62 8), .int (nI s1.1), .ref 64]) (h' := mk M1 T) (fun _ => rfl) ?_
    refine R_top (y := nI L) (hx1.2.2.2.2.1.1) ?_
    refine R_if 1 (c := (nI L) ≤ (nI s1.1)) (t := 71) (f := 67) (L' := [some (.ref 64), some (.int 0), none, none]) (st' := [.ref 64]) (h' := mk M1 T) (fun _ => rfl) (fun g3 => ?_) (fun g3 => ?_)
    · replace g3 : L ≤ s1.1 := (nI_leI (a := L) (b := s1.1) (by omega) (by omega)).mp g3
      refine R_go 9 (pc' := 87) (L' := [some (.ref 64), some (.int 0), none, none]) (st' := [.int ((up (up M1 61 15 0) 62 8 0) 61 15)]) (h' := mk (up (up M1 61 15 0) 62 8 0) T) (fun _ => rfl) ?_
      refine R_top (y := 0) (rfl) ?_
      refine R_go 12 (pc' := 116) (L' := [some (.ref 64), some (.int 0), some (.int 156), none]) (st' := [.int ((up (up M1 61 15 0) 62 8 0) 61 12), .int 156, .ref 65]) (h' := mk (up (up M1 61 15 0) 62 8 0) T) (fun _ => rfl) ?_
      refine R_top (y := nI s1.2.1) (hx1.2.1) ?_
      refine R_go 3 (pc' := 119) (L' := [some (.ref 64), some (.int 0), some (.int 156), some (.int 0)]) (st' := []) (h' := mk (up (up (up M1 61 15 0) 62 8 0) 62 156 (nI s1.2.1)) T) (fun _ => rfl) ?_
      exact k1 M1 hx1
    · replace g3 : ¬ L ≤ s1.1 := fun q => g3 ((nI_leI (a := L) (b := s1.1) (by omega) (by omega)).mpr q)
      omega
  · exact absurd ((by decide)) g1
set_option maxRecDepth 100000 in
set_option maxHeartbeats 4000000 in
theorem lp_text_0 {ro : xRO} {d : Nat} {M : xM} {T : Nat}  {n : Nat} (hn : M 61 12 = nI n) (n60 : n ≤ 60) : ∀ (k : Nat) (i : Nat), i + k = n →  Rn ro (d + 90) M_X8_text 119 [some (.ref 64), some (.int 0), some (.int 156), some (.int (nI i))] [] (mk (tpC M 157 217 i) T) (fun r h => r = some (.int 1) ∧ h = mk (tpC M 157 217 n) T) := by
  intro k
  induction k with
  | zero =>
    intro i hi
    obtain rfl : i = n := by omega
    refine R_go 3 (pc' := 124) (L' := [some (.ref 64), some (.int 0), some (.int 156), some (.int (nI i))]) (st' := [.int ((tpC M 157 217 i) 61 12), .int (nI i)]) (h' := mk (tpC M 157 217 i) T) (fun _ => rfl) ?_
    refine R_top (y := nI i) ((congrFun (tpC_ne (by omega) _) 12).trans hn) ?_
    refine R_if 1 (c := (nI i) ≤ (nI i)) (t := 166) (f := 127) (L' := [some (.ref 64), some (.int 0), some (.int 156), some (.int (nI i))]) (st' := []) (h' := mk (tpC M 157 217 i) T) (fun _ => rfl) (fun g1 => ?_) (fun g1 => ?_)
    · replace g1 : i ≤ i := (nI_leI (a := i) (b := i) (by omega) (by omega)).mp g1
      refine R_ret 2 (pcr := 167) (v := some (.int 1)) (h' := mk (tpC M 157 217 i) T) (fun _ => rfl) ?_
      exact ⟨rfl, rfl⟩
    · replace g1 : ¬ i ≤ i := fun q => g1 ((nI_leI (a := i) (b := i) (by omega) (by omega)).mpr q)
      omega
  | succ k ih =>
    intro i hi
    refine R_go 3 (pc' := 124) (L' := [some (.ref 64), some (.int 0), some (.int 156), some (.int (nI i))]) (st' := [.int ((tpC M 157 217 i) 61 12), .int (nI i)]) (h' := mk (tpC M 157 217 i) T) (fun _ => rfl) ?_
    refine R_top (y := nI n) ((congrFun (tpC_ne (by omega) _) 12).trans hn) ?_
    refine R_if 1 (c := (nI n) ≤ (nI i)) (t := 166) (f := 127) (L' := [some (.ref 64), some (.int 0), some (.int 156), some (.int (nI i))]) (st' := []) (h' := mk (tpC M 157 217 i) T) (fun _ => rfl) (fun g1 => ?_) (fun g1 => ?_)
    · replace g1 : n ≤ i := (nI_leI (a := n) (b := i) (by omega) (by omega)).mp g1
      omega
    · replace g1 : ¬ n ≤ i := fun q => g1 ((nI_leI (a := n) (b := i) (by omega) (by omega)).mpr q)
      refine R_go 7 (pc' := 136) (L' := [some (.ref 64), some (.int 0), some (.int 156), some (.int (nI i))]) (st' := [.int (157 + nI i), .ref 65]) (h' := mk (tpC M 157 217 i) T) (fun _ => rfl) ?_
      refine R_top (nI_add 157 i) ?_
      refine R_go 3 (pc' := 141) (L' := [some (.ref 64), some (.int 0), some (.int 156), some (.int (nI i))]) (st' := [.int (nI i), .ref 71, .int (nI (157 + i)), .ref 65]) (h' := mk (tpC M 157 217 i) T) (fun _ => rfl) ?_
      refine R_iald (c := 68) (n := 60) (j := i) rfl rfl (by omega) (by decide) ?_
      refine R_iast (c := 62) (n := 398) (j := 157 + i) rfl rfl (by omega) (by decide) ?_
      refine R_go 7 (pc' := 153) (L' := [some (.ref 64), some (.int 0), some (.int 156), some (.int (nI i))]) (st' := [.int (217 + nI i), .ref 65]) (h' := mk (up (tpC M 157 217 i) 62 (157 + i) ((tpC M 157 217 i) 68 i)) T) (fun _ => rfl) ?_
      refine R_top (nI_add 217 i) ?_
      refine R_go 3 (pc' := 158) (L' := [some (.ref 64), some (.int 0), some (.int 156), some (.int (nI i))]) (st' := [.int (nI i), .ref 72, .int (nI (217 + i)), .ref 65]) (h' := mk (up (tpC M 157 217 i) 62 (157 + i) ((tpC M 157 217 i) 68 i)) T) (fun _ => rfl) ?_
      refine R_iald (c := 69) (n := 60) (j := i) rfl rfl (by omega) (by decide) ?_
      refine R_iast (c := 62) (n := 398) (j := 217 + i) rfl rfl (by omega) (by decide) ?_
      refine R_go 1 (pc' := 163) (L' := [some (.ref 64), some (.int 0), some (.int 156), some (.int ((nI i) + 1))]) (st' := []) (h' := mk (up (up (tpC M 157 217 i) 62 (157 + i) ((tpC M 157 217 i) 68 i)) 62 (217 + i) ((up (tpC M 157 217 i) 62 (157 + i) ((tpC M 157 217 i) 68 i)) 69 i)) T) (fun _ => rfl) ?_
      rw [nI_1]
      refine R_go 1 (pc' := 119) (L' := [some (.ref 64), some (.int 0), some (.int 156), some (.int (nI (i + 1)))]) (st' := []) (h' := mk (up (up (tpC M 157 217 i) 62 (157 + i) ((tpC M 157 217 i) 68 i)) 62 (217 + i) ((up (tpC M 157 217 i) 62 (157 + i) ((tpC M 157 217 i) 68 i)) 69 i)) T) (fun _ => rfl) ?_
      exact ih (i + 1) (by omega)
theorem mx_text_l_0 {ro : xRO} {d T : Nat} {M : xM} {L p : Nat} {f : Nat → Int32} (h60 : L ≤ 60) (hL : M 62 8 = nI L) (hf : ∀ i, i < 60 → M 62 (72 + i) = f i) (e : tpZ f L 0 = .inl p) : Rn ro (d + 90) M_X8_text 0 [some (.ref 64), some (.int 0), none, none] [] (mk M T) (fun rr h => ∃ M1, tpN L M p M1 ∧ rr = some (.int (-10 - nI p)) ∧ h = mk (up M1 62 8 0) T) := by
  have w := mx_any (ro := ro) (d := d) (T := T) h60 (u := 0) (by omega) hL hf
  have k := tp_lev_ok (f := f) (tp_one_ok (f := f) (L := L) (u := 0) 5) 5 _ 0 tpO_0
  rcases tpZ_in e with q | ⟨s, q1, q2, q3⟩
  · exact m_text_f_0 h60 (tpP_al q w) (fun M1 h => ⟨_, h.bad1, rfl, rfl⟩)
  · subst q3
    rw [q1] at k
    have k2 := k.1.2.1
    exact m_text_n_0 h60 q2 (tpP_ar q1 w) (fun M1 h => ⟨_, h.flt (by omega), rfl, rfl⟩)
theorem mx_text_r_0 {ro : xRO} {d T : Nat} {M : xM} {L : Nat} {s : tpS} {f : Nat → Int32} (h60 : L ≤ 60) (hL : M 62 8 = nI L) (hf : ∀ i, i < 60 → M 62 (72 + i) = f i) (e : tpZ f L 0 = .inr s) : Rn ro (d + 90) M_X8_text 0 [some (.ref 64), some (.int 0), none, none] [] (mk M T) (fun rr h => ∃ M1, tpM f L 0 M 0 s M1 ∧ rr = some (.int 1) ∧ h = mk (tpC (up (up (up M1 61 15 0) 62 8 0) 62 156 (nI s.2.1)) 157 217 s.2.1) T) := by
  have w := mx_any (ro := ro) (d := d) (T := T) h60 (u := 0) (by omega) hL hf
  have k := tpZ_ok (f := f) (L := L) (u := 0)
  rw [e] at k
  have q := tpZ_ir e
  have k1 := k.1.1
  have k2 := k.1.2.1
  exact m_text_g_0 h60 k1 q.2 (tpP_ar q.1 w) (fun M1 h => (lp_text_0 (M := up (up (up M1 61 15 0) 62 8 0) 62 156 (nI s.2.1)) h.2.1 (by omega) s.2.1 0 (Nat.zero_add _)).imp (fun _ _ z => ⟨M1, h, z.1, z.2⟩))
set_option maxRecDepth 100000 in
set_option maxHeartbeats 4000000 in
theorem m_text_f_1 {ro : xRO} {d : Nat} {M : xM} {T : Nat} {Q : Option Value → xH → Prop} {L p : Nat} (h60 : L ≤ 60) (hsub : Rn ro (d + 89) M_X8_any 0 [some (.ref 64)] [] (mk (up (up (up (up (up M 61 16 1) 61 12 0) 61 13 0) 61 14 0) 61 15 0) T) (fun rr h => ∃ M1, tpN L M p M1 ∧ rr = none ∧ h = mk M1 T))  (k1 : ∀ M1, tpN L M p M1 → Q (some (.int (-10 - nI p))) (mk (up (up M1 61 15 1) 62 8 0) T)) : Rn ro (d + 90) M_X8_text 0 [some (.ref 64), some (.int 1), none, none] [] (mk M T) Q := by
  refine R_go 3 (pc' := 3) (L' := [some (.ref 64), some (.int 1), none, none]) (st' := [.int 1, .int 0, .int 1]) (h' := mk M T) (fun _ => rfl) ?_
  refine R_call2 (i := .invokestatic 53) (kd := 1) (y := M_X8_in) (as := [.int 1, .int 0, .int 1]) (r := []) (L0 := [some (.int 1), some (.int 0), some (.int 1)]) (v1 := some (.int 1)) (v2 := some (.int 0)) (h1' := mk M T) (h2' := mk M T) (pc' := 6) (st1 := [.int 1]) (st2 := [.int 0]) rfl rfl rfl rfl rfl rfl (m_in) (fun g1 => ?_) (fun g1 => ?_)
  · refine R_go 17 (pc' := 42) (L' := [some (.ref 64), some (.int 1), none, none]) (st' := [.ref 64]) (h' := mk (up (up (up (up (up M 61 16 1) 61 12 0) 61 13 0) 61 14 0) 61 15 0) T) (fun _ => rfl) ?_
    refine R_callE (i := .invokevirtual 128) (kd := 0) (y := M_X8_any) (as := [.ref 64]) (r := []) (L0 := [some (.ref 64)]) (v := fun M1 => none) (h' := fun M1 => mk M1 T) (pc' := 45) (st' := fun M1 => []) rfl rfl rfl rfl rfl rfl (hsub) (fun M1 g2 => ?_)
    have hx1 := g2
    refine R_go 3 (pc' := 50) (L' := [some (.ref 64), some (.int 1), none, none]) (st' := [.int (M1 61 15), .ref 64]) (h' := mk M1 T) (fun _ => rfl) ?_
    refine R_top (y := 1) (hx1.2.2.1) ?_
    refine R_go 11 (pc' := 87) (L' := [some (.ref 64), some (.int 1), none, none]) (st' := [.int ((up (up M1 61 15 1) 62 8 0) 61 15)]) (h' := mk (up (up M1 61 15 1) 62 8 0) T) (fun _ => rfl) ?_
    refine R_top (y := 1) (rfl) ?_
    refine R_go 4 (pc' := 96) (L' := [some (.ref 64), some (.int 1), none, none]) (st' := [.int ((up (up M1 61 15 1) 62 8 0) 61 13), .int (-10)]) (h' := mk (up (up M1 61 15 1) 62 8 0) T) (fun _ => rfl) ?_
    refine R_top (y := nI p) (hx1.1) ?_
    refine R_ret 2 (pcr := 97) (v := some (.int ((-10) - (nI p)))) (h' := mk (up (up M1 61 15 1) 62 8 0) T) (fun _ => rfl) ?_
    exact k1 M1 hx1
  · exact absurd ((by decide)) g1
set_option maxRecDepth 100000 in
set_option maxHeartbeats 4000000 in
theorem m_text_n_1 {ro : xRO} {d : Nat} {M : xM} {T : Nat} {Q : Option Value → xH → Prop} {f : Nat → Int32} {L : Nat} (h60 : L ≤ 60) {s1 : tpS} (hlt : s1.1 < L) (hsub : Rn ro (d + 89) M_X8_any 0 [some (.ref 64)] [] (mk (up (up (up (up (up M 61 16 1) 61 12 0) 61 13 0) 61 14 0) 61 15 0) T) (fun rr h => ∃ M1, tpM f L 1 M 0 s1 M1 ∧ rr = none ∧ h = mk M1 T))  (k1 : ∀ M1, tpM f L 1 M 0 s1 M1 → Q (some (.int (-10 - nI s1.1))) (mk (up (up M1 61 15 1) 62 8 0) T)) : Rn ro (d + 90) M_X8_text 0 [some (.ref 64), some (.int 1), none, none] [] (mk M T) Q := by
  refine R_go 3 (pc' := 3) (L' := [some (.ref 64), some (.int 1), none, none]) (st' := [.int 1, .int 0, .int 1]) (h' := mk M T) (fun _ => rfl) ?_
  refine R_call2 (i := .invokestatic 53) (kd := 1) (y := M_X8_in) (as := [.int 1, .int 0, .int 1]) (r := []) (L0 := [some (.int 1), some (.int 0), some (.int 1)]) (v1 := some (.int 1)) (v2 := some (.int 0)) (h1' := mk M T) (h2' := mk M T) (pc' := 6) (st1 := [.int 1]) (st2 := [.int 0]) rfl rfl rfl rfl rfl rfl (m_in) (fun g1 => ?_) (fun g1 => ?_)
  · refine R_go 17 (pc' := 42) (L' := [some (.ref 64), some (.int 1), none, none]) (st' := [.ref 64]) (h' := mk (up (up (up (up (up M 61 16 1) 61 12 0) 61 13 0) 61 14 0) 61 15 0) T) (fun _ => rfl) ?_
    refine R_callE (i := .invokevirtual 128) (kd := 0) (y := M_X8_any) (as := [.ref 64]) (r := []) (L0 := [some (.ref 64)]) (v := fun M1 => none) (h' := fun M1 => mk M1 T) (pc' := 45) (st' := fun M1 => []) rfl rfl rfl rfl rfl rfl (hsub) (fun M1 g2 => ?_)
    have hx1 := g2
    refine R_go 3 (pc' := 50) (L' := [some (.ref 64), some (.int 1), none, none]) (st' := [.int (M1 61 15), .ref 64]) (h' := mk M1 T) (fun _ => rfl) ?_
    refine R_top (y := 0) (hx1.2.2.2.1.2.1) ?_
    refine R_go 3 (pc' := 57) (L' := [some (.ref 64), some (.int 1), none, none]) (st' := [.int (M1 61 13), .ref 64]) (h' := mk M1 T) (fun _ => rfl) ?_
    refine R_top (y := nI s1.1) (hx1.1) ?_
    refine R_go 4 (pc' := 64) (L' := [some (.ref 64), some (.int 1), none, none]) (st' := [.int (M1 62 8), .int (nI s1.1), .ref 64]) (h' := mk M1 T) (fun _ => rfl) ?_
    refine R_top (y := nI L) (hx1.2.2.2.2.1.1) ?_
    refine R_if 1 (c := (nI L) ≤ (nI s1.1)) (t := 71) (f := 67) (L' := [some (.ref 64), some (.int 1), none, none]) (st' := [.ref 64]) (h' := mk M1 T) (fun _ => rfl) (fun g3 => ?_) (fun g3 => ?_)
    · replace g3 : L ≤ s1.1 := (nI_leI (a := L) (b := s1.1) (by omega) (by omega)).mp g3
      omega
    · replace g3 : ¬ L ≤ s1.1 := fun q => g3 ((nI_leI (a := L) (b := s1.1) (by omega) (by omega)).mpr q)
      refine R_go 10 (pc' := 87) (L' := [some (.ref 64), some (.int 1), none, none]) (st' := [.int ((up (up M1 61 15 1) 62 8 0) 61 15)]) (h' := mk (up (up M1 61 15 1) 62 8 0) T) (fun _ => rfl) ?_
      refine R_top (y := 1) (rfl) ?_
      refine R_go 4 (pc' := 96) (L' := [some (.ref 64), some (.int 1), none, none]) (st' := [.int ((up (up M1 61 15 1) 62 8 0) 61 13), .int (-10)]) (h' := mk (up (up M1 61 15 1) 62 8 0) T) (fun _ => rfl) ?_
      refine R_top (y := nI s1.1) (hx1.1) ?_
      refine R_ret 2 (pcr := 97) (v := some (.int ((-10) - (nI s1.1)))) (h' := mk (up (up M1 61 15 1) 62 8 0) T) (fun _ => rfl) ?_
      exact k1 M1 hx1
  · exact absurd ((by decide)) g1
set_option maxRecDepth 100000 in
set_option maxHeartbeats 4000000 in
theorem m_text_g_1 {ro : xRO} {d : Nat} {M : xM} {T : Nat} {Q : Option Value → xH → Prop} {f : Nat → Int32} {L : Nat} (h60 : L ≤ 60) {s1 : tpS} (hle : s1.1 ≤ L) (hge : L ≤ s1.1) (hsub : Rn ro (d + 89) M_X8_any 0 [some (.ref 64)] [] (mk (up (up (up (up (up M 61 16 1) 61 12 0) 61 13 0) 61 14 0) 61 15 0) T) (fun rr h => ∃ M1, tpM f L 1 M 0 s1 M1 ∧ rr = none ∧ h = mk M1 T))  (k1 : ∀ M1, tpM f L 1 M 0 s1 M1 → Rn ro (d + 90) M_X8_text 119 [some (.ref 64), some (.int 1), some (.int 277), some (.int 0)] [] (mk (up (up (up M1 61 15 0) 62 8 0) 62 277 (nI s1.2.1)) T) Q) : Rn ro (d + 90) M_X8_text 0 [some (.ref 64), some (.int 1), none, none] [] (mk M T) Q := by
  refine R_go 3 (pc' := 3) (L' := [some (.ref 64), some (.int 1), none, none]) (st' := [.int 1, .int 0, .int 1]) (h' := mk M T) (fun _ => rfl) ?_
  refine R_call2 (i := .invokestatic 53) (kd := 1) (y := M_X8_in) (as := [.int 1, .int 0, .int 1]) (r := []) (L0 := [some (.int 1), some (.int 0), some (.int 1)]) (v1 := some (.int 1)) (v2 := some (.int 0)) (h1' := mk M T) (h2' := mk M T) (pc' := 6) (st1 := [.int 1]) (st2 := [.int 0]) rfl rfl rfl rfl rfl rfl (m_in) (fun g1 => ?_) (fun g1 => ?_)
  · refine R_go 17 (pc' := 42) (L' := [some (.ref 64), some (.int 1), none, none]) (st' := [.ref 64]) (h' := mk (up (up (up (up (up M 61 16 1) 61 12 0) 61 13 0) 61 14 0) 61 15 0) T) (fun _ => rfl) ?_
    refine R_callE (i := .invokevirtual 128) (kd := 0) (y := M_X8_any) (as := [.ref 64]) (r := []) (L0 := [some (.ref 64)]) (v := fun M1 => none) (h' := fun M1 => mk M1 T) (pc' := 45) (st' := fun M1 => []) rfl rfl rfl rfl rfl rfl (hsub) (fun M1 g2 => ?_)
    have hx1 := g2
    refine R_go 3 (pc' := 50) (L' := [some (.ref 64), some (.int 1), none, none]) (st' := [.int (M1 61 15), .ref 64]) (h' := mk M1 T) (fun _ => rfl) ?_
    refine R_top (y := 0) (hx1.2.2.2.1.2.1) ?_
    refine R_go 3 (pc' := 57) (L' := [some (.ref 64), some (.int 1), none, none]) (st' := [.int (M1 61 13), .ref 64]) (h' := mk M1 T) (fun _ => rfl) ?_
    refine R_top (y := nI s1.1) (hx1.1) ?_
    refine R_go 4 (pc' := 64) (L' := [some (.ref 64), some (.int 1), none, none]) (st' := [.int (M1 62 8), .int (nI s1.1), .ref 64]) (h' := mk M1 T) (fun _ => rfl) ?_
    refine R_top (y := nI L) (hx1.2.2.2.2.1.1) ?_
    refine R_if 1 (c := (nI L) ≤ (nI s1.1)) (t := 71) (f := 67) (L' := [some (.ref 64), some (.int 1), none, none]) (st' := [.ref 64]) (h' := mk M1 T) (fun _ => rfl) (fun g3 => ?_) (fun g3 => ?_)
    · replace g3 : L ≤ s1.1 := (nI_leI (a := L) (b := s1.1) (by omega) (by omega)).mp g3
      refine R_go 9 (pc' := 87) (L' := [some (.ref 64), some (.int 1), none, none]) (st' := [.int ((up (up M1 61 15 0) 62 8 0) 61 15)]) (h' := mk (up (up M1 61 15 0) 62 8 0) T) (fun _ => rfl) ?_
      refine R_top (y := 0) (rfl) ?_
      refine R_go 12 (pc' := 116) (L' := [some (.ref 64), some (.int 1), some (.int 277), none]) (st' := [.int ((up (up M1 61 15 0) 62 8 0) 61 12), .int 277, .ref 65]) (h' := mk (up (up M1 61 15 0) 62 8 0) T) (fun _ => rfl) ?_
      refine R_top (y := nI s1.2.1) (hx1.2.1) ?_
      refine R_go 3 (pc' := 119) (L' := [some (.ref 64), some (.int 1), some (.int 277), some (.int 0)]) (st' := []) (h' := mk (up (up (up M1 61 15 0) 62 8 0) 62 277 (nI s1.2.1)) T) (fun _ => rfl) ?_
      exact k1 M1 hx1
    · replace g3 : ¬ L ≤ s1.1 := fun q => g3 ((nI_leI (a := L) (b := s1.1) (by omega) (by omega)).mpr q)
      omega
  · exact absurd ((by decide)) g1
set_option maxRecDepth 100000 in
set_option maxHeartbeats 4000000 in
theorem lp_text_1 {ro : xRO} {d : Nat} {M : xM} {T : Nat}  {n : Nat} (hn : M 61 12 = nI n) (n60 : n ≤ 60) : ∀ (k : Nat) (i : Nat), i + k = n →  Rn ro (d + 90) M_X8_text 119 [some (.ref 64), some (.int 1), some (.int 277), some (.int (nI i))] [] (mk (tpC M 278 338 i) T) (fun r h => r = some (.int 1) ∧ h = mk (tpC M 278 338 n) T) := by
  intro k
  induction k with
  | zero =>
    intro i hi
    obtain rfl : i = n := by omega
    refine R_go 3 (pc' := 124) (L' := [some (.ref 64), some (.int 1), some (.int 277), some (.int (nI i))]) (st' := [.int ((tpC M 278 338 i) 61 12), .int (nI i)]) (h' := mk (tpC M 278 338 i) T) (fun _ => rfl) ?_
    refine R_top (y := nI i) ((congrFun (tpC_ne (by omega) _) 12).trans hn) ?_
    refine R_if 1 (c := (nI i) ≤ (nI i)) (t := 166) (f := 127) (L' := [some (.ref 64), some (.int 1), some (.int 277), some (.int (nI i))]) (st' := []) (h' := mk (tpC M 278 338 i) T) (fun _ => rfl) (fun g1 => ?_) (fun g1 => ?_)
    · replace g1 : i ≤ i := (nI_leI (a := i) (b := i) (by omega) (by omega)).mp g1
      refine R_ret 2 (pcr := 167) (v := some (.int 1)) (h' := mk (tpC M 278 338 i) T) (fun _ => rfl) ?_
      exact ⟨rfl, rfl⟩
    · replace g1 : ¬ i ≤ i := fun q => g1 ((nI_leI (a := i) (b := i) (by omega) (by omega)).mpr q)
      omega
  | succ k ih =>
    intro i hi
    refine R_go 3 (pc' := 124) (L' := [some (.ref 64), some (.int 1), some (.int 277), some (.int (nI i))]) (st' := [.int ((tpC M 278 338 i) 61 12), .int (nI i)]) (h' := mk (tpC M 278 338 i) T) (fun _ => rfl) ?_
    refine R_top (y := nI n) ((congrFun (tpC_ne (by omega) _) 12).trans hn) ?_
    refine R_if 1 (c := (nI n) ≤ (nI i)) (t := 166) (f := 127) (L' := [some (.ref 64), some (.int 1), some (.int 277), some (.int (nI i))]) (st' := []) (h' := mk (tpC M 278 338 i) T) (fun _ => rfl) (fun g1 => ?_) (fun g1 => ?_)
    · replace g1 : n ≤ i := (nI_leI (a := n) (b := i) (by omega) (by omega)).mp g1
      omega
    · replace g1 : ¬ n ≤ i := fun q => g1 ((nI_leI (a := n) (b := i) (by omega) (by omega)).mpr q)
      refine R_go 7 (pc' := 136) (L' := [some (.ref 64), some (.int 1), some (.int 277), some (.int (nI i))]) (st' := [.int (278 + nI i), .ref 65]) (h' := mk (tpC M 278 338 i) T) (fun _ => rfl) ?_
      refine R_top (nI_add 278 i) ?_
      refine R_go 3 (pc' := 141) (L' := [some (.ref 64), some (.int 1), some (.int 277), some (.int (nI i))]) (st' := [.int (nI i), .ref 71, .int (nI (278 + i)), .ref 65]) (h' := mk (tpC M 278 338 i) T) (fun _ => rfl) ?_
      refine R_iald (c := 68) (n := 60) (j := i) rfl rfl (by omega) (by decide) ?_
      refine R_iast (c := 62) (n := 398) (j := 278 + i) rfl rfl (by omega) (by decide) ?_
      refine R_go 7 (pc' := 153) (L' := [some (.ref 64), some (.int 1), some (.int 277), some (.int (nI i))]) (st' := [.int (338 + nI i), .ref 65]) (h' := mk (up (tpC M 278 338 i) 62 (278 + i) ((tpC M 278 338 i) 68 i)) T) (fun _ => rfl) ?_
      refine R_top (nI_add 338 i) ?_
      refine R_go 3 (pc' := 158) (L' := [some (.ref 64), some (.int 1), some (.int 277), some (.int (nI i))]) (st' := [.int (nI i), .ref 72, .int (nI (338 + i)), .ref 65]) (h' := mk (up (tpC M 278 338 i) 62 (278 + i) ((tpC M 278 338 i) 68 i)) T) (fun _ => rfl) ?_
      refine R_iald (c := 69) (n := 60) (j := i) rfl rfl (by omega) (by decide) ?_
      refine R_iast (c := 62) (n := 398) (j := 338 + i) rfl rfl (by omega) (by decide) ?_
      refine R_go 1 (pc' := 163) (L' := [some (.ref 64), some (.int 1), some (.int 277), some (.int ((nI i) + 1))]) (st' := []) (h' := mk (up (up (tpC M 278 338 i) 62 (278 + i) ((tpC M 278 338 i) 68 i)) 62 (338 + i) ((up (tpC M 278 338 i) 62 (278 + i) ((tpC M 278 338 i) 68 i)) 69 i)) T) (fun _ => rfl) ?_
      rw [nI_1]
      refine R_go 1 (pc' := 119) (L' := [some (.ref 64), some (.int 1), some (.int 277), some (.int (nI (i + 1)))]) (st' := []) (h' := mk (up (up (tpC M 278 338 i) 62 (278 + i) ((tpC M 278 338 i) 68 i)) 62 (338 + i) ((up (tpC M 278 338 i) 62 (278 + i) ((tpC M 278 338 i) 68 i)) 69 i)) T) (fun _ => rfl) ?_
      exact ih (i + 1) (by omega)
theorem mx_text_l_1 {ro : xRO} {d T : Nat} {M : xM} {L p : Nat} {f : Nat → Int32} (h60 : L ≤ 60) (hL : M 62 8 = nI L) (hf : ∀ i, i < 60 → M 62 (72 + i) = f i) (e : tpZ f L 1 = .inl p) : Rn ro (d + 90) M_X8_text 0 [some (.ref 64), some (.int 1), none, none] [] (mk M T) (fun rr h => ∃ M1, tpN L M p M1 ∧ rr = some (.int (-10 - nI p)) ∧ h = mk (up M1 62 8 0) T) := by
  have w := mx_any (ro := ro) (d := d) (T := T) h60 (u := 1) (by omega) hL hf
  have k := tp_lev_ok (f := f) (tp_one_ok (f := f) (L := L) (u := 1) 5) 5 _ 0 tpO_0
  rcases tpZ_in e with q | ⟨s, q1, q2, q3⟩
  · exact m_text_f_1 h60 (tpP_al q w) (fun M1 h => ⟨_, h.bad1, rfl, rfl⟩)
  · subst q3
    rw [q1] at k
    have k2 := k.1.2.1
    exact m_text_n_1 h60 q2 (tpP_ar q1 w) (fun M1 h => ⟨_, h.flt (by omega), rfl, rfl⟩)
theorem mx_text_r_1 {ro : xRO} {d T : Nat} {M : xM} {L : Nat} {s : tpS} {f : Nat → Int32} (h60 : L ≤ 60) (hL : M 62 8 = nI L) (hf : ∀ i, i < 60 → M 62 (72 + i) = f i) (e : tpZ f L 1 = .inr s) : Rn ro (d + 90) M_X8_text 0 [some (.ref 64), some (.int 1), none, none] [] (mk M T) (fun rr h => ∃ M1, tpM f L 1 M 0 s M1 ∧ rr = some (.int 1) ∧ h = mk (tpC (up (up (up M1 61 15 0) 62 8 0) 62 277 (nI s.2.1)) 278 338 s.2.1) T) := by
  have w := mx_any (ro := ro) (d := d) (T := T) h60 (u := 1) (by omega) hL hf
  have k := tpZ_ok (f := f) (L := L) (u := 1)
  rw [e] at k
  have q := tpZ_ir e
  have k1 := k.1.1
  have k2 := k.1.2.1
  exact m_text_g_1 h60 k1 q.2 (tpP_ar q.1 w) (fun M1 h => (lp_text_1 (M := up (up (up M1 61 15 0) 62 8 0) 62 277 (nI s.2.1)) h.2.1 (by omega) s.2.1 0 (Nat.zero_add _)).imp (fun _ _ z => ⟨M1, h, z.1, z.2⟩))
set_option maxRecDepth 100000 in
set_option maxHeartbeats 4000000 in
theorem m_text_o {ro : xRO} {d : Nat} {M : xM} {T : Nat} {i : Int32} (u0 : ¬ i = 0) (u1 : ¬ i = 1) : Rn ro (d + 90) M_X8_text 0 [some (.ref 64), some (.int i), none, none] [] (mk M T) (fun r h => r = some (.int (-1000000001)) ∧ h = mk (up M 64 1 (M 64 1 + 1)) T) := by
  refine R_go 3 (pc' := 3) (L' := [some (.ref 64), some (.int i), none, none]) (st' := [.int 1, .int 0, .int i]) (h' := mk M T) (fun _ => rfl) ?_
  refine R_call2 (i := .invokestatic 53) (kd := 1) (y := M_X8_in) (as := [.int i, .int 0, .int 1]) (r := []) (L0 := [some (.int i), some (.int 0), some (.int 1)]) (v1 := some (.int 1)) (v2 := some (.int 0)) (h1' := mk M T) (h2' := mk M T) (pc' := 6) (st1 := [.int 1]) (st2 := [.int 0]) rfl rfl rfl rfl rfl rfl (m_in) (fun g1 => ?_) (fun g1 => ?_)
  · exact absurd g1 ((by grind))
  · refine R_go 3 (pc' := 12) (L' := [some (.ref 64), some (.int i), none, none]) (st' := [.int (-1000000001), .ref 64]) (h' := mk M T) (fun _ => rfl) ?_
    refine R_callD (i := .invokevirtual 81) (kd := 0) (y := M_X8_error) (as := [.ref 64, .int (-1000000001)]) (r := []) (L0 := [some (.ref 64), some (.int (-1000000001))]) (v := some (.int (-1000000001))) (h' := mk (up M 64 1 (M 64 1 + 1)) T) (pc' := 15) (st' := [.int (-1000000001)]) rfl rfl rfl rfl rfl rfl (m_error_1) ?_
    refine R_ret 1 (pcr := 15) (v := some (.int (-1000000001))) (h' := mk (up M 64 1 (M 64 1 + 1)) T) (fun _ => rfl) ?_
    exact ⟨rfl, rfl⟩
