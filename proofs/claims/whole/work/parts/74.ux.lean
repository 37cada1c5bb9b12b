/-! OPERATIONS best, share: takeBest, findBest -/
theorem c_seek0 {ro : xRO} {d : Nat} {M : xM} {T : Nat} {M0 : xM} (h0 : Rel M0) (hf : FC M0 M) (hm : Memo M0 M) {P : Nat} (hP0 : M0 62 6 = nI P) (h6P : P ≤ 6) (hb : M 39 5 = -1) : Rn ro (d + 19) M_X3_seek 0 [some (.ref 42), some (.ref 4), some (.int 0), some (.int 0), some (.int (nI (hoN M0))), some (.int 0), none, none, none] [] (mk M T) (fun rr h => ∃ M', SX M0 M P (bst M0 P) M' ∧ rr = none ∧ h = mk M' T) := by
  have w := sk_all (ro := ro) (d := d + (9 - P)) (T := T) (Mb := M) h0 hP0 h6P P 0 0 (hoN M0) 0 (fun _ => 0) (none, fun _ => 0) M (Nat.zero_add P) (by have := (fc_now h0 hf).2.2.2.2.2; omega) (by omega) ⟨hf, hm, hb, fun b q => (by cases q), fun _ _ _ _ _ _ _ _ => rfl⟩ (fun j hj => absurd hj (Nat.not_lt_zero j))
  rw [show d + (9 - P) + P + 10 = d + 19 by omega] at w
  exact w.imp (fun _ _ q => by obtain ⟨M', q1, q2⟩ := q; exact ⟨M', q1.1, q2⟩)
theorem c_tries0 {ro : xRO} {d : Nat} {M : xM} {T : Nat} {M0 : xM} (h0 : Rel M0) (hf : FM M0 M) (hB : M 61 7 = 0) {P : Nat} (hP0 : M0 62 6 = nI P) (h6P : P ≤ 6) (hb : M 61 20 = -1) : Rn ro (d + 19) M_X8_tries 0 [some (.ref 64), some (.int 0), some (.int 0), some (.int (nI (hoN M0))), some (.int 0), none, none, none, none] [] (mk M T) (fun rr h => ∃ M', TX M0 M P (bst M0 P) M' ∧ rr = none ∧ h = mk M' T) := by
  have w := tk_all (ro := ro) (d := d + (9 - P)) (T := T) (Mb := M) h0 hP0 h6P P 0 0 (hoN M0) 0 (fun _ => 0) (none, fun _ => 0) M (Nat.zero_add P) (by have := (fm_now h0 hf).2.2.2.2.2; omega) (by omega) ⟨hf, hb, fun b q => (by cases q), hB, fun _ _ _ _ _ _ => rfl, fun _ _ => rfl⟩ (fun j hj => absurd hj (Nat.not_lt_zero j))
  rw [show d + (9 - P) + P + 10 = d + 19 by omega] at w
  exact w.imp (fun _ _ q => by obtain ⟨M', q1, q2⟩ := q; exact ⟨M', q1.1, q2⟩)
set_option maxRecDepth 100000 in
set_option maxHeartbeats 4000000 in
theorem c_takeBest {ro : xRO} {d : Nat} {M : xM} {T : Nat} {M0 : xM} (h0 : Rel M0) (hf : FC M0 M) {P : Nat} (hP0 : M0 62 6 = nI P) (h6P : P ≤ 6) : Rn ro (d + 20) M_X3_takeBest 0 [some (.ref 42), some (.ref 4)] [] (mk M T) (fun rr h => ∃ M', (FS M M' ∧ FC M0 M' ∧ Memo M0 M' ∧ M' 39 5 = encB (bst M0 P).1 ∧ ∀ j, j < P → M' 42 j = nI ((bst M0 P).2 j)) ∧ rr = none ∧ h = mk M' T) := by
  refine R_go 1 (pc' := 1) (L' := [some (.ref 42), some (.ref 4)]) (st' := [.ref 42]) (h' := mk M T) (fun _ => rfl) ?_
  refine R_callE (i := .invokevirtual 81) (kd := 0) (y := M_X3_forget) (as := [.ref 42]) (r := []) (L0 := [some (.ref 42)]) (v := fun M1 => none) (h' := fun M1 => mk M1 T) (pc' := 4) (st' := fun M1 => []) rfl rfl rfl rfl rfl rfl (c_forget (M0 := M0)) (fun M1 x1 => ?_)
  obtain ⟨fo1, me1⟩ := x1
  refine R_go 9 (pc' := 17) (L' := [some (.ref 42), some (.ref 4)]) (st' := [.int ((up M1 39 5 (-1)) 1 12), .int 0, .int 0, .ref 4, .ref 42]) (h' := mk (up M1 39 5 (-1)) T) (fun _ => rfl) ?_
  refine R_top (y := nI (hoN M0)) (((congrFun (up_ne (by omega)) 12).trans ((congrFun (fo1 1 (by omega) (by omega)) 12).trans (fc_now h0 hf).2.2.1))) ?_
  refine R_go 1 (pc' := 18) (L' := [some (.ref 42), some (.ref 4)]) (st' := [.int 0, .int (nI (hoN M0)), .int 0, .int 0, .ref 4, .ref 42]) (h' := mk (up M1 39 5 (-1)) T) (fun _ => rfl) ?_
  refine R_callE (i := .invokevirtual 138) (kd := 0) (y := M_X3_seek) (as := [.ref 42, .ref 4, .int 0, .int 0, .int (nI (hoN M0)), .int 0]) (r := []) (L0 := [some (.ref 42), some (.ref 4), some (.int 0), some (.int 0), some (.int (nI (hoN M0))), some (.int 0), none, none, none]) (v := fun M2 => none) (h' := fun M2 => mk M2 T) (pc' := 21) (st' := fun M2 => []) rfl rfl rfl rfl rfl rfl (c_seek0 (M := up M1 39 5 (-1)) h0 (FC_up (FC_fo hf fo1) (Or.inr (by omega))) (me1.frame rfl rfl) hP0 h6P up_at) (fun M2 x2 => ?_)
  have xw := x2
  refine R_ret 1 (pcr := 21) (v := none) (h' := mk M2 T) (fun _ => rfl) ?_
  obtain ⟨b, b1, b2, b3⟩ := bst_ok (M0 := M0) (P := P) (by omega)
  exact ⟨M2, ⟨fun c hc => by unfold sIr at hc; exact (xw.2.2.2.2 c (by omega) (by omega) (by omega) (by omega) (by omega) (by omega) (by omega)).trans ((up_ne (by omega)).trans (fo1 c (by omega) (by omega))), xw.1, xw.2.1, xw.2.2.1, (xw.2.2.2.1 b b1).2⟩, rfl, rfl⟩
set_option maxRecDepth 100000 in
set_option maxHeartbeats 4000000 in
theorem c_findBest {ro : xRO} {d : Nat} {M : xM} {T : Nat} {M0 : xM} (h0 : Rel M0) (hf : FM M0 M) (hB : M 61 7 = 0) {P : Nat} (hP0 : M0 62 6 = nI P) (h6P : P ≤ 6) : Rn ro (d + 20) M_X8_findBest 0 [some (.ref 64)] [] (mk M T) (fun rr h => ∃ M', ((∀ c, c ≠ 61 → ¬ sIr c → M' c = M c) ∧ (∀ j, j ≠ 20 → M' 61 j = M 61 j) ∧ FM M0 M' ∧ M' 61 20 = encB (bst M0 P).1 ∧ ∀ j, j < P → M' 74 j = nI ((bst M0 P).2 j)) ∧ rr = none ∧ h = mk M' T) := by
  refine R_go 10 (pc' := 14) (L' := [some (.ref 64)]) (st' := [.int ((up M 61 20 (-1)) 62 1), .int 0, .int 0, .ref 64]) (h' := mk (up M 61 20 (-1)) T) (fun _ => rfl) ?_
  refine R_top (y := nI (hoN M0)) (((congrFun (up_ne (by omega)) 1).trans (fm_now h0 hf).2.2.1)) ?_
  refine R_go 1 (pc' := 15) (L' := [some (.ref 64)]) (st' := [.int 0, .int (nI (hoN M0)), .int 0, .int 0, .ref 64]) (h' := mk (up M 61 20 (-1)) T) (fun _ => rfl) ?_
  refine R_callE (i := .invokevirtual 193) (kd := 0) (y := M_X8_tries) (as := [.ref 64, .int 0, .int 0, .int (nI (hoN M0)), .int 0]) (r := []) (L0 := [some (.ref 64), some (.int 0), some (.int 0), some (.int (nI (hoN M0))), some (.int 0), none, none, none, none]) (v := fun M2 => none) (h' := fun M2 => mk M2 T) (pc' := 18) (st' := fun M2 => []) rfl rfl rfl rfl rfl rfl (c_tries0 (M := up M 61 20 (-1)) h0 (FM_up hf (by omega)) ((up_nj (by omega) 61).trans hB) hP0 h6P up_at) (fun M2 x1 => ?_)
  have xw := x1
  refine R_ret 1 (pcr := 18) (v := none) (h' := mk M2 T) (fun _ => rfl) ?_
  obtain ⟨b, b1, b2, b3⟩ := bst_ok (M0 := M0) (P := P) (by omega)
  exact ⟨M2, ⟨fun c a hc => by unfold sIr at hc; exact (xw.2.2.2.2.1 c a (by omega) (by omega) (by omega) (by omega)).trans (up_ne a), fun j a => (xw.2.2.2.2.2 j a).trans (up_nj a 61), xw.1, xw.2.1, (xw.2.2.1 b b1).2⟩, rfl, rfl⟩
