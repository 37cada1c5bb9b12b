/-! OPERATION text: the reader of the model, its levels -/
def tpP (f : Nat → Int32) (L u : Nat) (Mb : xM) (o T : Nat) (r : tpT) : Option Value → xH → Prop := fun rr h => ∃ M', tpW f L u Mb o r M' ∧ rr = none ∧ h = mk M' T
theorem tpP_al {f : Nat → Int32} {L u o T : Nat} {Mb : xM} {r : tpT} {p : Nat} (e : r = .inl p) {ro : xRO} {d : Nat} {md : MD} {l : xL} {h : xH} (w : Rn ro d md 0 l [] h (tpP f L u Mb o T r)) : Rn ro d md 0 l [] h (fun rr h => ∃ M1, tpN L Mb p M1 ∧ rr = none ∧ h = mk M1 T) := by
  subst e
  exact w
theorem tpP_ar {f : Nat → Int32} {L u o T : Nat} {Mb : xM} {r : tpT} {s : tpS} (e : r = .inr s) {ro : xRO} {d : Nat} {md : MD} {l : xL} {h : xH} (w : Rn ro d md 0 l [] h (tpP f L u Mb o T r)) : Rn ro d md 0 l [] h (fun rr h => ∃ M1, tpM f L u Mb o s M1 ∧ rr = none ∧ h = mk M1 T) := by
  subst e
  exact w
theorem tpP_l {f : Nat → Int32} {L u o T : Nat} {Mb : xM} {r : tpT} {p : Nat} (e : r = .inl p) {M : xM} (h : tpN L Mb p M) : tpP f L u Mb o T r none (mk M T) := by
  subst e
  exact ⟨M, h, rfl, rfl⟩
theorem tpP_r {f : Nat → Int32} {L u o T : Nat} {Mb : xM} {r : tpT} {s : tpS} (e : r = .inr s) {M : xM} (h : tpM f L u Mb o s M) : tpP f L u Mb o T r none (mk M T) := by
  subst e
  exact ⟨M, h, rfl, rfl⟩
theorem tp_lv_s {b : Int32} : (tp_lv b = nI 0 → b = 124) ∧ (tp_lv b = nI 1 → b = 38) ∧ (tp_lv b = nI 2 → b = 60 ∨ b = 61 ∨ b = 62) ∧ (tp_lv b = nI 3 → b = 43 ∨ b = 45) ∧ (tp_lv b = nI 4 → b = 42 ∨ b = 47 ∨ b = 37) := by
  rcases Classical.em (sgnT b) with hs | hs
  · unfold sgnT at hs
    rcases hs with rfl | rfl | rfl | rfl | rfl | rfl | rfl | rfl | rfl | rfl <;> decide
  · have n : ∀ l, l ≤ 4 → ¬ tp_lv b = nI l := fun l hl q => hs (tp_sg hl q)
    exact ⟨fun q => absurd q (n 0 (by omega)), fun q => absurd q (n 1 (by omega)), fun q => absurd q (n 2 (by omega)), fun q => absurd q (n 3 (by omega)), fun q => absurd q (n 4 (by omega))⟩
set_option maxRecDepth 100000 in
set_option maxHeartbeats 4000000 in
theorem tm_times_in_f {ro : xRO} {d : Nat} {M : xM} {T : Nat} {Q : Option Value → xH → Prop} {f : Nat → Int32} {L u o : Nat} {Mb : xM} {p : Nat} (hsub : Rn ro (d + 3) M_X8_one 0 [some (.ref 64), none, none] [] (mk M T) (fun rr h => ∃ M1, tpN L Mb (p) M1 ∧ rr = none ∧ h = mk M1 T))  (k1 : ∀ M', tpN L Mb (p) M' → Q none (mk M' T)) : Rn ro (d + 4) M_X8_times 0 [some (.ref 64), none] [] (mk M T) Q := by
  refine R_go 1 (pc' := 1) (L' := [some (.ref 64), none]) (st' := [.ref 64]) (h' := mk M T) (fun _ => rfl) ?_
  refine R_callE (i := .invokevirtual 125) (kd := 0) (y := M_X8_one) (as := [.ref 64]) (r := []) (L0 := [some (.ref 64), none, none]) (v := fun M1 => none) (h' := fun M1 => mk M1 T) (pc' := 4) (st' := fun M1 => []) rfl rfl rfl rfl rfl rfl (hsub) (fun M1 g1 => ?_)
  have hx1 := g1
  refine R_go 2 (pc' := 8) (L' := [some (.ref 64), none]) (st' := [.int (M1 61 15)]) (h' := mk M1 T) (fun _ => rfl) ?_
  refine R_top (y := 1) (hx1.2.2.1) ?_
  refine R_ret 2 (pcr := 66) (v := none) (h' := mk M1 T) (fun _ => rfl) ?_
  exact k1 _ hx1
set_option maxRecDepth 100000 in
set_option maxHeartbeats 4000000 in
theorem tm_times_in_g {ro : xRO} {d : Nat} {M : xM} {T : Nat} {Q : Option Value → xH → Prop} {f : Nat → Int32} {L u o : Nat} {Mb : xM} {s1 : tpS} (hsub : Rn ro (d + 3) M_X8_one 0 [some (.ref 64), none, none] [] (mk M T) (fun rr h => ∃ M1, tpM f L u Mb (o) (s1) M1 ∧ rr = none ∧ h = mk M1 T))  (k1 : ∀ M', tpM f L u Mb (o) (s1) M' → Rn ro (d + 4) M_X8_times 4 [some (.ref 64), none] [] (mk M' T) Q) : Rn ro (d + 4) M_X8_times 0 [some (.ref 64), none] [] (mk M T) Q := by
  refine R_go 1 (pc' := 1) (L' := [some (.ref 64), none]) (st' := [.ref 64]) (h' := mk M T) (fun _ => rfl) ?_
  refine R_callE (i := .invokevirtual 125) (kd := 0) (y := M_X8_one) (as := [.ref 64]) (r := []) (L0 := [some (.ref 64), none, none]) (v := fun M1 => none) (h' := fun M1 => mk M1 T) (pc' := 4) (st' := fun M1 => []) rfl rfl rfl rfl rfl rfl (hsub) (fun M1 g1 => ?_)
  have hx1 := g1
  exact k1 _ hx1
set_option maxRecDepth 100000 in
set_option maxHeartbeats 4000000 in
theorem tm_times_o {ro : xRO} {d : Nat} {M : xM} {T : Nat} {Q : Option Value → xH → Prop} {f : Nat → Int32} {L u o : Nat} {Mb : xM} {s : tpS} (hx : tpM f L u Mb o s M) (hle : s.1 ≤ L) (h60 : L ≤ 60) {b : Int32} (hb : tp_lk f L s.1 = b) {w : Option Value} (n42 : ¬ b = 42) (n47 : ¬ b = 47) (n37 : ¬ b = 37)  (k1 : ∀ M', tpM f L u Mb (o) (s) M' → Q none (mk M' T)) : Rn ro (d + 4) M_X8_times 4 [some (.ref 64), w] [] (mk M T) Q := by
  refine R_go 2 (pc' := 8) (L' := [some (.ref 64), w]) (st' := [.int (M 61 15)]) (h' := mk M T) (fun _ => rfl) ?_
  refine R_top (y := 0) (hx.2.2.2.1.2.1) ?_
  refine R_go 2 (pc' := 12) (L' := [some (.ref 64), w]) (st' := [.ref 64]) (h' := mk M T) (fun _ => rfl) ?_
  refine R_callD (i := .invokevirtual 110) (kd := 0) (y := M_X8_look) (as := [.ref 64]) (r := []) (L0 := [some (.ref 64)]) (v := some (.int (tp_lk f L s.1))) (h' := mk M T) (pc' := 15) (st' := [.int (tp_lk f L s.1)]) rfl rfl rfl rfl rfl rfl (tm_look hx hle h60) ?_
  refine R_top (y := b) hb ?_
  refine R_if 2 (c := b = 42) (t := 38) (f := 20) (L' := [some (.ref 64), w]) (st' := []) (h' := mk M T) (fun _ => rfl) (fun g1 => ?_) (fun g1 => ?_)
  · exact absurd g1 (n42)
  · refine R_go 1 (pc' := 21) (L' := [some (.ref 64), w]) (st' := [.ref 64]) (h' := mk M T) (fun _ => rfl) ?_
    refine R_callD (i := .invokevirtual 110) (kd := 0) (y := M_X8_look) (as := [.ref 64]) (r := []) (L0 := [some (.ref 64)]) (v := some (.int (tp_lk f L s.1))) (h' := mk M T) (pc' := 24) (st' := [.int (tp_lk f L s.1)]) rfl rfl rfl rfl rfl rfl (tm_look hx hle h60) ?_
    refine R_top (y := b) hb ?_
    refine R_if 2 (c := b = 47) (t := 38) (f := 29) (L' := [some (.ref 64), w]) (st' := []) (h' := mk M T) (fun _ => rfl) (fun g2 => ?_) (fun g2 => ?_)
    · exact absurd g2 (n47)
    · refine R_go 1 (pc' := 30) (L' := [some (.ref 64), w]) (st' := [.ref 64]) (h' := mk M T) (fun _ => rfl) ?_
      refine R_callD (i := .invokevirtual 110) (kd := 0) (y := M_X8_look) (as := [.ref 64]) (r := []) (L0 := [some (.ref 64)]) (v := some (.int (tp_lk f L s.1))) (h' := mk M T) (pc' := 33) (st' := [.int (tp_lk f L s.1)]) rfl rfl rfl rfl rfl rfl (tm_look hx hle h60) ?_
      refine R_top (y := b) hb ?_
      refine R_ifn 2 (c := b = 37) (t := 66) (f := 38) (L' := [some (.ref 64), w]) (st' := []) (h' := mk M T) (fun _ => rfl) (fun g3 => ?_) (fun g3 => ?_)
      · refine R_ret 1 (pcr := 66) (v := none) (h' := mk M T) (fun _ => rfl) ?_
        exact k1 _ hx
      · exact absurd g3 (n37)
set_option maxRecDepth 100000 in
set_option maxHeartbeats 4000000 in
theorem tm_times_t42_g {ro : xRO} {d : Nat} {M : xM} {T : Nat} {Q : Option Value → xH → Prop} {f : Nat → Int32} {L u o : Nat} {Mb : xM} {s : tpS} (hx : tpM f L u Mb o s M) (hle : s.1 ≤ L) (h60 : L ≤ 60) (hb : tp_lk f L s.1 = 42) {w : Option Value} {s1 : tpS} (hsub : Rn ro (d + 3) M_X8_one 0 [some (.ref 64), none, none] [] (mk (up M 61 13 (nI (s.1 + 1))) T) (fun rr h => ∃ M1, tpM f L u Mb (o) (s1) M1 ∧ rr = none ∧ h = mk M1 T)) (hs : s1.2.1 < 60) (k1 : ∀ M', tpM f L u Mb (o) (tp_psh s1 42 0) M' → Rn ro (d + 4) M_X8_times 4 [some (.ref 64), some (.int 42)] [] (mk M' T) Q) : Rn ro (d + 4) M_X8_times 4 [some (.ref 64), w] [] (mk M T) Q := by
  refine R_go 2 (pc' := 8) (L' := [some (.ref 64), w]) (st' := [.int (M 61 15)]) (h' := mk M T) (fun _ => rfl) ?_
  refine R_top (y := 0) (hx.2.2.2.1.2.1) ?_
  refine R_go 2 (pc' := 12) (L' := [some (.ref 64), w]) (st' := [.ref 64]) (h' := mk M T) (fun _ => rfl) ?_
  refine R_callD (i := .invokevirtual 110) (kd := 0) (y := M_X8_look) (as := [.ref 64]) (r := []) (L0 := [some (.ref 64)]) (v := some (.int (tp_lk f L s.1))) (h' := mk M T) (pc' := 15) (st' := [.int (tp_lk f L s.1)]) rfl rfl rfl rfl rfl rfl (tm_look hx hle h60) ?_
  refine R_top (y := 42) hb ?_
  refine R_go 3 (pc' := 39) (L' := [some (.ref 64), w]) (st' := [.ref 64]) (h' := mk M T) (fun _ => rfl) ?_
  refine R_callD (i := .invokevirtual 110) (kd := 0) (y := M_X8_look) (as := [.ref 64]) (r := []) (L0 := [some (.ref 64)]) (v := some (.int (tp_lk f L s.1))) (h' := mk M T) (pc' := 42) (st' := [.int (tp_lk f L s.1)]) rfl rfl rfl rfl rfl rfl (tm_look hx hle h60) ?_
  refine R_top (y := 42) hb ?_
  refine R_go 4 (pc' := 48) (L' := [some (.ref 64), some (.int 42)]) (st' := [.int (M 61 13), .ref 64]) (h' := mk M T) (fun _ => rfl) ?_
  refine R_top (y := nI s.1) (hx.1) ?_
  refine R_go 2 (pc' := 50) (L' := [some (.ref 64), some (.int 42)]) (st' := [.int (nI s.1 + 1), .ref 64]) (h' := mk M T) (fun _ => rfl) ?_
  refine R_top (nI_add s.1 1) ?_
  refine R_go 2 (pc' := 54) (L' := [some (.ref 64), some (.int 42)]) (st' := [.ref 64]) (h' := mk (up M 61 13 (nI (s.1 + 1))) T) (fun _ => rfl) ?_
  refine R_callE (i := .invokevirtual 125) (kd := 0) (y := M_X8_one) (as := [.ref 64]) (r := []) (L0 := [some (.ref 64), none, none]) (v := fun M1 => none) (h' := fun M1 => mk M1 T) (pc' := 57) (st' := fun M1 => []) rfl rfl rfl rfl rfl rfl (hsub) (fun M1 g1 => ?_)
  have hx1 := g1
  refine R_go 3 (pc' := 60) (L' := [some (.ref 64), some (.int 42)]) (st' := [.int 0, .int 42, .ref 64]) (h' := mk M1 T) (fun _ => rfl) ?_
  refine R_callD (i := .invokevirtual 118) (kd := 0) (y := M_X8_step) (as := [.ref 64, .int 42, .int 0]) (r := []) (L0 := [some (.ref 64), some (.int 42), some (.int 0)]) (v := none) (h' := mk (up (up (up M1 68 s1.2.1 42) 69 s1.2.1 0) 61 12 (nI (s1.2.1 + 1))) T) (pc' := 63) (st' := []) rfl rfl rfl rfl rfl rfl (tm_step (M := M1) (k := s1.2.1) hx1.2.1 (by omega)) ?_
  refine R_go 1 (pc' := 4) (L' := [some (.ref 64), some (.int 42)]) (st' := []) (h' := mk (up (up (up M1 68 s1.2.1 42) 69 s1.2.1 0) 61 12 (nI (s1.2.1 + 1))) T) (fun _ => rfl) ?_
  exact k1 _ hx1.psh
set_option maxRecDepth 100000 in
set_option maxHeartbeats 4000000 in
theorem tm_times_t42_f {ro : xRO} {d : Nat} {M : xM} {T : Nat} {Q : Option Value → xH → Prop} {f : Nat → Int32} {L u o : Nat} {Mb : xM} {s : tpS} (hx : tpM f L u Mb o s M) (hle : s.1 ≤ L) (h60 : L ≤ 60) (hb : tp_lk f L s.1 = 42) {w : Option Value} {p : Nat} (hsub : Rn ro (d + 3) M_X8_one 0 [some (.ref 64), none, none] [] (mk (up M 61 13 (nI (s.1 + 1))) T) (fun rr h => ∃ M1, tpN L Mb (p) M1 ∧ rr = none ∧ h = mk M1 T))  (k1 : ∀ M', tpN L Mb (p) M' → Q none (mk M' T)) : Rn ro (d + 4) M_X8_times 4 [some (.ref 64), w] [] (mk M T) Q := by
  refine R_go 2 (pc' := 8) (L' := [some (.ref 64), w]) (st' := [.int (M 61 15)]) (h' := mk M T) (fun _ => rfl) ?_
  refine R_top (y := 0) (hx.2.2.2.1.2.1) ?_
  refine R_go 2 (pc' := 12) (L' := [some (.ref 64), w]) (st' := [.ref 64]) (h' := mk M T) (fun _ => rfl) ?_
  refine R_callD (i := .invokevirtual 110) (kd := 0) (y := M_X8_look) (as := [.ref 64]) (r := []) (L0 := [some (.ref 64)]) (v := some (.int (tp_lk f L s.1))) (h' := mk M T) (pc' := 15) (st' := [.int (tp_lk f L s.1)]) rfl rfl rfl rfl rfl rfl (tm_look hx hle h60) ?_
  refine R_top (y := 42) hb ?_
  refine R_go 3 (pc' := 39) (L' := [some (.ref 64), w]) (st' := [.ref 64]) (h' := mk M T) (fun _ => rfl) ?_
  refine R_callD (i := .invokevirtual 110) (kd := 0) (y := M_X8_look) (as := [.ref 64]) (r := []) (L0 := [some (.ref 64)]) (v := some (.int (tp_lk f L s.1))) (h' := mk M T) (pc' := 42) (st' := [.int (tp_lk f L s.1)]) rfl rfl rfl rfl rfl rfl (tm_look hx hle h60) ?_
  refine R_top (y := 42) hb ?_
  refine R_go 4 (pc' := 48) (L' := [some (.ref 64), some (.int 42)]) (st' := [.int (M 61 13), .ref 64]) (h' := mk M T) (fun _ => rfl) ?_
  refine R_top (y := nI s.1) (hx.1) ?_
  refine R_go 2 (pc' := 50) (L' := [some (.ref 64), some (.int 42)]) (st' := [.int (nI s.1 + 1), .ref 64]) (h' := mk M T) (fun _ => rfl) ?_
  refine R_top (nI_add s.1 1) ?_
  refine R_go 2 (pc' := 54) (L' := [some (.ref 64), some (.int 42)]) (st' := [.ref 64]) (h' := mk (up M 61 13 (nI (s.1 + 1))) T) (fun _ => rfl) ?_
  refine R_callE (i := .invokevirtual 125) (kd := 0) (y := M_X8_one) (as := [.ref 64]) (r := []) (L0 := [some (.ref 64), none, none]) (v := fun M1 => none) (h' := fun M1 => mk M1 T) (pc' := 57) (st' := fun M1 => []) rfl rfl rfl rfl rfl rfl (hsub) (fun M1 g1 => ?_)
  have hx1 := g1
  refine R_go 3 (pc' := 60) (L' := [some (.ref 64), some (.int 42)]) (st' := [.int 0, .int 42, .ref 64]) (h' := mk M1 T) (fun _ => rfl) ?_
  refine R_callE (i := .invokevirtual 118) (kd := 0) (y := M_X8_step) (as := [.ref 64, .int 42, .int 0]) (r := []) (L0 := [some (.ref 64), some (.int 42), some (.int 0)]) (v := fun M2 => none) (h' := fun M2 => mk M2 T) (pc' := 63) (st' := fun M2 => []) rfl rfl rfl rfl rfl rfl (tm_stepN hx1) (fun M2 g2 => ?_)
  have hx2 := g2
  refine R_go 3 (pc' := 8) (L' := [some (.ref 64), some (.int 42)]) (st' := [.int (M2 61 15)]) (h' := mk M2 T) (fun _ => rfl) ?_
  refine R_top (y := 1) (hx2.2.2.1) ?_
  refine R_ret 2 (pcr := 66) (v := none) (h' := mk M2 T) (fun _ => rfl) ?_
  exact k1 _ hx2
set_option maxRecDepth 100000 in
set_option maxHeartbeats 4000000 in
theorem tm_times_t47_g {ro : xRO} {d : Nat} {M : xM} {T : Nat} {Q : Option Value → xH → Prop} {f : Nat → Int32} {L u o : Nat} {Mb : xM} {s : tpS} (hx : tpM f L u Mb o s M) (hle : s.1 ≤ L) (h60 : L ≤ 60) (hb : tp_lk f L s.1 = 47) {w : Option Value} {s1 : tpS} (hsub : Rn ro (d + 3) M_X8_one 0 [some (.ref 64), none, none] [] (mk (up M 61 13 (nI (s.1 + 1))) T) (fun rr h => ∃ M1, tpM f L u Mb (o) (s1) M1 ∧ rr = none ∧ h = mk M1 T)) (hs : s1.2.1 < 60) (k1 : ∀ M', tpM f L u Mb (o) (tp_psh s1 47 0) M' → Rn ro (d + 4) M_X8_times 4 [some (.ref 64), some (.int 47)] [] (mk M' T) Q) : Rn ro (d + 4) M_X8_times 4 [some (.ref 64), w] [] (mk M T) Q := by
  refine R_go 2 (pc' := 8) (L' := [some (.ref 64), w]) (st' := [.int (M 61 15)]) (h' := mk M T) (fun _ => rfl) ?_
  refine R_top (y := 0) (hx.2.2.2.1.2.1) ?_
  refine R_go 2 (pc' := 12) (L' := [some (.ref 64), w]) (st' := [.ref 64]) (h' := mk M T) (fun _ => rfl) ?_
  refine R_callD (i := .invokevirtual 110) (kd := 0) (y := M_X8_look) (as := [.ref 64]) (r := []) (L0 := [some (.ref 64)]) (v := some (.int (tp_lk f L s.1))) (h' := mk M T) (pc' := 15) (st' := [.int (tp_lk f L s.1)]) rfl rfl rfl rfl rfl rfl (tm_look hx hle h60) ?_
  refine R_top (y := 47) hb ?_
  refine R_go 3 (pc' := 21) (L' := [some (.ref 64), w]) (st' := [.ref 64]) (h' := mk M T) (fun _ => rfl) ?_
  refine R_callD (i := .invokevirtual 110) (kd := 0) (y := M_X8_look) (as := [.ref 64]) (r := []) (L0 := [some (.ref 64)]) (v := some (.int (tp_lk f L s.1))) (h' := mk M T) (pc' := 24) (st' := [.int (tp_lk f L s.1)]) rfl rfl rfl rfl rfl rfl (tm_look hx hle h60) ?_
  refine R_top (y := 47) hb ?_
  refine R_go 3 (pc' := 39) (L' := [some (.ref 64), w]) (st' := [.ref 64]) (h' := mk M T) (fun _ => rfl) ?_
  refine R_callD (i := .invokevirtual 110) (kd := 0) (y := M_X8_look) (as := [.ref 64]) (r := []) (L0 := [some (.ref 64)]) (v := some (.int (tp_lk f L s.1))) (h' := mk M T) (pc' := 42) (st' := [.int (tp_lk f L s.1)]) rfl rfl rfl rfl rfl rfl (tm_look hx hle h60) ?_
  refine R_top (y := 47) hb ?_
  refine R_go 4 (pc' := 48) (L' := [some (.ref 64), some (.int 47)]) (st' := [.int (M 61 13), .ref 64]) (h' := mk M T) (fun _ => rfl) ?_
  refine R_top (y := nI s.1) (hx.1) ?_
  refine R_go 2 (pc' := 50) (L' := [some (.ref 64), some (.int 47)]) (st' := [.int (nI s.1 + 1), .ref 64]) (h' := mk M T) (fun _ => rfl) ?_
  refine R_top (nI_add s.1 1) ?_
  refine R_go 2 (pc' := 54) (L' := [some (.ref 64), some (.int 47)]) (st' := [.ref 64]) (h' := mk (up M 61 13 (nI (s.1 + 1))) T) (fun _ => rfl) ?_
  refine R_callE (i := .invokevirtual 125) (kd := 0) (y := M_X8_one) (as := [.ref 64]) (r := []) (L0 := [some (.ref 64), none, none]) (v := fun M1 => none) (h' := fun M1 => mk M1 T) (pc' := 57) (st' := fun M1 => []) rfl rfl rfl rfl rfl rfl (hsub) (fun M1 g1 => ?_)
  have hx1 := g1
  refine R_go 3 (pc' := 60) (L' := [some (.ref 64), some (.int 47)]) (st' := [.int 0, .int 47, .ref 64]) (h' := mk M1 T) (fun _ => rfl) ?_
  refine R_callD (i := .invokevirtual 118) (kd := 0) (y := M_X8_step) (as := [.ref 64, .int 47, .int 0]) (r := []) (L0 := [some (.ref 64), some (.int 47), some (.int 0)]) (v := none) (h' := mk (up (up (up M1 68 s1.2.1 47) 69 s1.2.1 0) 61 12 (nI (s1.2.1 + 1))) T) (pc' := 63) (st' := []) rfl rfl rfl rfl rfl rfl (tm_step (M := M1) (k := s1.2.1) hx1.2.1 (by omega)) ?_
  refine R_go 1 (pc' := 4) (L' := [some (.ref 64), some (.int 47)]) (st' := []) (h' := mk (up (up (up M1 68 s1.2.1 47) 69 s1.2.1 0) 61 12 (nI (s1.2.1 + 1))) T) (fun _ => rfl) ?_
  exact k1 _ hx1.psh
set_option maxRecDepth 100000 in
set_option maxHeartbeats 4000000 in
theorem tm_times_t47_f {ro : xRO} {d : Nat} {M : xM} {T : Nat} {Q : Option Value → xH → Prop} {f : Nat → Int32} {L u o : Nat} {Mb : xM} {s : tpS} (hx : tpM f L u Mb o s M) (hle : s.1 ≤ L) (h60 : L ≤ 60) (hb : tp_lk f L s.1 = 47) {w : Option Value} {p : Nat} (hsub : Rn ro (d + 3) M_X8_one 0 [some (.ref 64), none, none] [] (mk (up M 61 13 (nI (s.1 + 1))) T) (fun rr h => ∃ M1, tpN L Mb (p) M1 ∧ rr = none ∧ h = mk M1 T))  (k1 : ∀ M', tpN L Mb (p) M' → Q none (mk M' T)) : Rn ro (d + 4) M_X8_times 4 [some (.ref 64), w] [] (mk M T) Q := by
  refine R_go 2 (pc' := 8) (L' := [some (.ref 64), w]) (st' := [.int (M 61 15)]) (h' := mk M T) (fun _ => rfl) ?_
  refine R_top (y := 0) (hx.2.2.2.1.2.1) ?_
  refine R_go 2 (pc' := 12) (L' := [some (.ref 64), w]) (st' := [.ref 64]) (h' := mk M T) (fun _ => rfl) ?_
  refine R_callD (i := .invokevirtual 110) (kd := 0) (y := M_X8_look) (as := [.ref 64]) (r := []) (L0 := [some (.ref 64)]) (v := some (.int (tp_lk f L s.1))) (h' := mk M T) (pc' := 15) (st' := [.int (tp_lk f L s.1)]) rfl rfl rfl rfl rfl rfl (tm_look hx hle h60) ?_
  refine R_top (y := 47) hb ?_
  refine R_go 3 (pc' := 21) (L' := [some (.ref 64), w]) (st' := [.ref 64]) (h' := mk M T) (fun _ => rfl) ?_
  refine R_callD (i := .invokevirtual 110) (kd := 0) (y := M_X8_look) (as := [.ref 64]) (r := []) (L0 := [some (.ref 64)]) (v := some (.int (tp_lk f L s.1))) (h' := mk M T) (pc' := 24) (st' := [.int (tp_lk f L s.1)]) rfl rfl rfl rfl rfl rfl (tm_look hx hle h60) ?_
  refine R_top (y := 47) hb ?_
  refine R_go 3 (pc' := 39) (L' := [some (.ref 64), w]) (st' := [.ref 64]) (h' := mk M T) (fun _ => rfl) ?_
  refine R_callD (i := .invokevirtual 110) (kd := 0) (y := M_X8_look) (as := [.ref 64]) (r := []) (L0 := [some (.ref 64)]) (v := some (.int (tp_lk f L s.1))) (h' := mk M T) (pc' := 42) (st' := [.int (tp_lk f L s.1)]) rfl rfl rfl rfl rfl rfl (tm_look hx hle h60) ?_
  refine R_top (y := 47) hb ?_
  refine R_go 4 (pc' := 48) (L' := [some (.ref 64), some (.int 47)]) (st' := [.int (M 61 13), .ref 64]) (h' := mk M T) (fun _ => rfl) ?_
  refine R_top (y := nI s.1) (hx.1) ?_
  refine R_go 2 (pc' := 50) (L' := [some (.ref 64), some (.int 47)]) (st' := [.int (nI s.1 + 1), .ref 64]) (h' := mk M T) (fun _ => rfl) ?_
  refine R_top (nI_add s.1 1) ?_
  refine R_go 2 (pc' := 54) (L' := [some (.ref 64), some (.int 47)]) (st' := [.ref 64]) (h' := mk (up M 61 13 (nI (s.1 + 1))) T) (fun _ => rfl) ?_
  refine R_callE (i := .invokevirtual 125) (kd := 0) (y := M_X8_one) (as := [.ref 64]) (r := []) (L0 := [some (.ref 64), none, none]) (v := fun M1 => none) (h' := fun M1 => mk M1 T) (pc' := 57) (st' := fun M1 => []) rfl rfl rfl rfl rfl rfl (hsub) (fun M1 g1 => ?_)
  have hx1 := g1
  refine R_go 3 (pc' := 60) (L' := [some (.ref 64), some (.int 47)]) (st' := [.int 0, .int 47, .ref 64]) (h' := mk M1 T) (fun _ => rfl) ?_
  refine R_callE (i := .invokevirtual 118) (kd := 0) (y := M_X8_step) (as := [.ref 64, .int 47, .int 0]) (r := []) (L0 := [some (.ref 64), some (.int 47), some (.int 0)]) (v := fun M2 => none) (h' := fun M2 => mk M2 T) (pc' := 63) (st' := fun M2 => []) rfl rfl rfl rfl rfl rfl (tm_stepN hx1) (fun M2 g2 => ?_)
  have hx2 := g2
  refine R_go 3 (pc' := 8) (L' := [some (.ref 64), some (.int 47)]) (st' := [.int (M2 61 15)]) (h' := mk M2 T) (fun _ => rfl) ?_
  refine R_top (y := 1) (hx2.2.2.1) ?_
  refine R_ret 2 (pcr := 66) (v := none) (h' := mk M2 T) (fun _ => rfl) ?_
  exact k1 _ hx2
set_option maxRecDepth 100000 in
set_option maxHeartbeats 4000000 in
theorem tm_times_t37_g {ro : xRO} {d : Nat} {M : xM} {T : Nat} {Q : Option Value → xH → Prop} {f : Nat → Int32} {L u o : Nat} {Mb : xM} {s : tpS} (hx : tpM f L u Mb o s M) (hle : s.1 ≤ L) (h60 : L ≤ 60) (hb : tp_lk f L s.1 = 37) {w : Option Value} {s1 : tpS} (hsub : Rn ro (d + 3) M_X8_one 0 [some (.ref 64), none, none] [] (mk (up M 61 13 (nI (s.1 + 1))) T) (fun rr h => ∃ M1, tpM f L u Mb (o) (s1) M1 ∧ rr = none ∧ h = mk M1 T)) (hs : s1.2.1 < 60) (k1 : ∀ M', tpM f L u Mb (o) (tp_psh s1 37 0) M' → Rn ro (d + 4) M_X8_times 4 [some (.ref 64), some (.int 37)] [] (mk M' T) Q) : Rn ro (d + 4) M_X8_times 4 [some (.ref 64), w] [] (mk M T) Q := by
  refine R_go 2 (pc' := 8) (L' := [some (.ref 64), w]) (st' := [.int (M 61 15)]) (h' := mk M T) (fun _ => rfl) ?_
  refine R_top (y := 0) (hx.2.2.2.1.2.1) ?_
  refine R_go 2 (pc' := 12) (L' := [some (.ref 64), w]) (st' := [.ref 64]) (h' := mk M T) (fun _ => rfl) ?_
  refine R_callD (i := .invokevirtual 110) (kd := 0) (y := M_X8_look) (as := [.ref 64]) (r := []) (L0 := [some (.ref 64)]) (v := some (.int (tp_lk f L s.1))) (h' := mk M T) (pc' := 15) (st' := [.int (tp_lk f L s.1)]) rfl rfl rfl rfl rfl rfl (tm_look hx hle h60) ?_
  refine R_top (y := 37) hb ?_
  refine R_go 3 (pc' := 21) (L' := [some (.ref 64), w]) (st' := [.ref 64]) (h' := mk M T) (fun _ => rfl) ?_
  refine R_callD (i := .invokevirtual 110) (kd := 0) (y := M_X8_look) (as := [.ref 64]) (r := []) (L0 := [some (.ref 64)]) (v := some (.int (tp_lk f L s.1))) (h' := mk M T) (pc' := 24) (st' := [.int (tp_lk f L s.1)]) rfl rfl rfl rfl rfl rfl (tm_look hx hle h60) ?_
  refine R_top (y := 37) hb ?_
  refine R_go 3 (pc' := 30) (L' := [some (.ref 64), w]) (st' := [.ref 64]) (h' := mk M T) (fun _ => rfl) ?_
  refine R_callD (i := .invokevirtual 110) (kd := 0) (y := M_X8_look) (as := [.ref 64]) (r := []) (L0 := [some (.ref 64)]) (v := some (.int (tp_lk f L s.1))) (h' := mk M T) (pc' := 33) (st' := [.int (tp_lk f L s.1)]) rfl rfl rfl rfl rfl rfl (tm_look hx hle h60) ?_
  refine R_top (y := 37) hb ?_
  refine R_go 3 (pc' := 39) (L' := [some (.ref 64), w]) (st' := [.ref 64]) (h' := mk M T) (fun _ => rfl) ?_
  refine R_callD (i := .invokevirtual 110) (kd := 0) (y := M_X8_look) (as := [.ref 64]) (r := []) (L0 := [some (.ref 64)]) (v := some (.int (tp_lk f L s.1))) (h' := mk M T) (pc' := 42) (st' := [.int (tp_lk f L s.1)]) rfl rfl rfl rfl rfl rfl (tm_look hx hle h60) ?_
  refine R_top (y := 37) hb ?_
  refine R_go 4 (pc' := 48) (L' := [some (.ref 64), some (.int 37)]) (st' := [.int (M 61 13), .ref 64]) (h' := mk M T) (fun _ => rfl) ?_
  refine R_top (y := nI s.1) (hx.1) ?_
  refine R_go 2 (pc' := 50) (L' := [some (.ref 64), some (.int 37)]) (st' := [.int (nI s.1 + 1), .ref 64]) (h' := mk M T) (fun _ => rfl) ?_
  refine R_top (nI_add s.1 1) ?_
  refine R_go 2 (pc' := 54) (L' := [some (.ref 64), some (.int 37)]) (st' := [.ref 64]) (h' := mk (up M 61 13 (nI (s.1 + 1))) T) (fun _ => rfl) ?_
  refine R_callE (i := .invokevirtual 125) (kd := 0) (y := M_X8_one) (as := [.ref 64]) (r := []) (L0 := [some (.ref 64), none, none]) (v := fun M1 => none) (h' := fun M1 => mk M1 T) (pc' := 57) (st' := fun M1 => []) rfl rfl rfl rfl rfl rfl (hsub) (fun M1 g1 => ?_)
  have hx1 := g1
  refine R_go 3 (pc' := 60) (L' := [some (.ref 64), some (.int 37)]) (st' := [.int 0, .int 37, .ref 64]) (h' := mk M1 T) (fun _ => rfl) ?_
  refine R_callD (i := .invokevirtual 118) (kd := 0) (y := M_X8_step) (as := [.ref 64, .int 37, .int 0]) (r := []) (L0 := [some (.ref 64), some (.int 37), some (.int 0)]) (v := none) (h' := mk (up (up (up M1 68 s1.2.1 37) 69 s1.2.1 0) 61 12 (nI (s1.2.1 + 1))) T) (pc' := 63) (st' := []) rfl rfl rfl rfl rfl rfl (tm_step (M := M1) (k := s1.2.1) hx1.2.1 (by omega)) ?_
  refine R_go 1 (pc' := 4) (L' := [some (.ref 64), some (.int 37)]) (st' := []) (h' := mk (up (up (up M1 68 s1.2.1 37) 69 s1.2.1 0) 61 12 (nI (s1.2.1 + 1))) T) (fun _ => rfl) ?_
  exact k1 _ hx1.psh
set_option maxRecDepth 100000 in
set_option maxHeartbeats 4000000 in
theorem tm_times_t37_f {ro : xRO} {d : Nat} {M : xM} {T : Nat} {Q : Option Value → xH → Prop} {f : Nat → Int32} {L u o : Nat} {Mb : xM} {s : tpS} (hx : tpM f L u Mb o s M) (hle : s.1 ≤ L) (h60 : L ≤ 60) (hb : tp_lk f L s.1 = 37) {w : Option Value} {p : Nat} (hsub : Rn ro (d + 3) M_X8_one 0 [some (.ref 64), none, none] [] (mk (up M 61 13 (nI (s.1 + 1))) T) (fun rr h => ∃ M1, tpN L Mb (p) M1 ∧ rr = none ∧ h = mk M1 T))  (k1 : ∀ M', tpN L Mb (p) M' → Q none (mk M' T)) : Rn ro (d + 4) M_X8_times 4 [some (.ref 64), w] [] (mk M T) Q := by
  refine R_go 2 (pc' := 8) (L' := [some (.ref 64), w]) (st' := [.int (M 61 15)]) (h' := mk M T) (fun _ => rfl) ?_
  refine R_top (y := 0) (hx.2.2.2.1.2.1) ?_
  refine R_go 2 (pc' := 12) (L' := [some (.ref 64), w]) (st' := [.ref 64]) (h' := mk M T) (fun _ => rfl) ?_
  refine R_callD (i := .invokevirtual 110) (kd := 0) (y := M_X8_look) (as := [.ref 64]) (r := []) (L0 := [some (.ref 64)]) (v := some (.int (tp_lk f L s.1))) (h' := mk M T) (pc' := 15) (st' := [.int (tp_lk f L s.1)]) rfl rfl rfl rfl rfl rfl (tm_look hx hle h60) ?_
  refine R_top (y := 37) hb ?_
  refine R_go 3 (pc' := 21) (L' := [some (.ref 64), w]) (st' := [.ref 64]) (h' := mk M T) (fun _ => rfl) ?_
  refine R_callD (i := .invokevirtual 110) (kd := 0) (y := M_X8_look) (as := [.ref 64]) (r := []) (L0 := [some (.ref 64)]) (v := some (.int (tp_lk f L s.1))) (h' := mk M T) (pc' := 24) (st' := [.int (tp_lk f L s.1)]) rfl rfl rfl rfl rfl rfl (tm_look hx hle h60) ?_
  refine R_top (y := 37) hb ?_
  refine R_go 3 (pc' := 30) (L' := [some (.ref 64), w]) (st' := [.ref 64]) (h' := mk M T) (fun _ => rfl) ?_
  refine R_callD (i := .invokevirtual 110) (kd := 0) (y := M_X8_look) (as := [.ref 64]) (r := []) (L0 := [some (.ref 64)]) (v := some (.int (tp_lk f L s.1))) (h' := mk M T) (pc' := 33) (st' := [.int (tp_lk f L s.1)]) rfl rfl rfl rfl rfl rfl (tm_look hx hle h60) ?_
  refine R_top (y := 37) hb ?_
  refine R_go 3 (pc' := 39) (L' := [some (.ref 64), w]) (st' := [.ref 64]) (h' := mk M T) (fun _ => rfl) ?_
  refine R_callD (i := .invokevirtual 110) (kd := 0) (y := M_X8_look) (as := [.ref 64]) (r := []) (L0 := [some (.ref 64)]) (v := some (.int (tp_lk f L s.1))) (h' := mk M T) (pc' := 42) (st' := [.int (tp_lk f L s.1)]) rfl rfl rfl rfl rfl rfl (tm_look hx hle h60) ?_
  refine R_top (y := 37) hb ?_
  refine R_go 4 (pc' := 48) (L' := [some (.ref 64), some (.int 37)]) (st' := [.int (M 61 13), .ref 64]) (h' := mk M T) (fun _ => rfl) ?_
  refine R_top (y := nI s.1) (hx.1) ?_
  refine R_go 2 (pc' := 50) (L' := [some (.ref 64), some (.int 37)]) (st' := [.int (nI s.1 + 1), .ref 64]) (h' := mk M T) (fun _ => rfl) ?_
  refine R_top (nI_add s.1 1) ?_
  refine R_go 2 (pc' := 54) (L' := [some (.ref 64), some (.int 37)]) (st' := [.ref 64]) (h' := mk (up M 61 13 (nI (s.1 + 1))) T) (fun _ => rfl) ?_
  refine R_callE (i := .invokevirtual 125) (kd := 0) (y := M_X8_one) (as := [.ref 64]) (r := []) (L0 := [some (.ref 64), none, none]) (v := fun M1 => none) (h' := fun M1 => mk M1 T) (pc' := 57) (st' := fun M1 => []) rfl rfl rfl rfl rfl rfl (hsub) (fun M1 g1 => ?_)
  have hx1 := g1
  refine R_go 3 (pc' := 60) (L' := [some (.ref 64), some (.int 37)]) (st' := [.int 0, .int 37, .ref 64]) (h' := mk M1 T) (fun _ => rfl) ?_
  refine R_callE (i := .invokevirtual 118) (kd := 0) (y := M_X8_step) (as := [.ref 64, .int 37, .int 0]) (r := []) (L0 := [some (.ref 64), some (.int 37), some (.int 0)]) (v := fun M2 => none) (h' := fun M2 => mk M2 T) (pc' := 63) (st' := fun M2 => []) rfl rfl rfl rfl rfl rfl (tm_stepN hx1) (fun M2 g2 => ?_)
  have hx2 := g2
  refine R_go 3 (pc' := 8) (L' := [some (.ref 64), some (.int 37)]) (st' := [.int (M2 61 15)]) (h' := mk M2 T) (fun _ => rfl) ?_
  refine R_top (y := 1) (hx2.2.2.1) ?_
  refine R_ret 2 (pcr := 66) (v := none) (h' := mk M2 T) (fun _ => rfl) ?_
  exact k1 _ hx2
set_option maxRecDepth 100000 in
set_option maxHeartbeats 4000000 in
theorem tm_sum_in_f {ro : xRO} {d : Nat} {M : xM} {T : Nat} {Q : Option Value → xH → Prop} {f : Nat → Int32} {L u o : Nat} {Mb : xM} {p : Nat} (hsub : Rn ro (d + 3) M_X8_times 0 [some (.ref 64), none] [] (mk M T) (fun rr h => ∃ M1, tpN L Mb (p) M1 ∧ rr = none ∧ h = mk M1 T))  (k1 : ∀ M', tpN L Mb (p) M' → Q none (mk M' T)) : Rn ro (d + 4) M_X8_sum 0 [some (.ref 64), none] [] (mk M T) Q := by
  refine R_go 1 (pc' := 1) (L' := [some (.ref 64), none]) (st' := [.ref 64]) (h' := mk M T) (fun _ => rfl) ?_
  refine R_callE (i := .invokevirtual 141) (kd := 0) (y := M_X8_times) (as := [.ref 64]) (r := []) (L0 := [some (.ref 64), none]) (v := fun M1 => none) (h' := fun M1 => mk M1 T) (pc' := 4) (st' := fun M1 => []) rfl rfl rfl rfl rfl rfl (hsub) (fun M1 g1 => ?_)
  have hx1 := g1
  refine R_go 2 (pc' := 8) (L' := [some (.ref 64), none]) (st' := [.int (M1 61 15)]) (h' := mk M1 T) (fun _ => rfl) ?_
  refine R_top (y := 1) (hx1.2.2.1) ?_
  refine R_ret 2 (pcr := 57) (v := none) (h' := mk M1 T) (fun _ => rfl) ?_
  exact k1 _ hx1
set_option maxRecDepth 100000 in
set_option maxHeartbeats 4000000 in
theorem tm_sum_in_g {ro : xRO} {d : Nat} {M : xM} {T : Nat} {Q : Option Value → xH → Prop} {f : Nat → Int32} {L u o : Nat} {Mb : xM} {s1 : tpS} (hsub : Rn ro (d + 3) M_X8_times 0 [some (.ref 64), none] [] (mk M T) (fun rr h => ∃ M1, tpM f L u Mb (o) (s1) M1 ∧ rr = none ∧ h = mk M1 T))  (k1 : ∀ M', tpM f L u Mb (o) (s1) M' → Rn ro (d + 4) M_X8_sum 4 [some (.ref 64), none] [] (mk M' T) Q) : Rn ro (d + 4) M_X8_sum 0 [some (.ref 64), none] [] (mk M T) Q := by
  refine R_go 1 (pc' := 1) (L' := [some (.ref 64), none]) (st' := [.ref 64]) (h' := mk M T) (fun _ => rfl) ?_
  refine R_callE (i := .invokevirtual 141) (kd := 0) (y := M_X8_times) (as := [.ref 64]) (r := []) (L0 := [some (.ref 64), none]) (v := fun M1 => none) (h' := fun M1 => mk M1 T) (pc' := 4) (st' := fun M1 => []) rfl rfl rfl rfl rfl rfl (hsub) (fun M1 g1 => ?_)
  have hx1 := g1
  exact k1 _ hx1
set_option maxRecDepth 100000 in
set_option maxHeartbeats 4000000 in
theorem tm_sum_o {ro : xRO} {d : Nat} {M : xM} {T : Nat} {Q : Option Value → xH → Prop} {f : Nat → Int32} {L u o : Nat} {Mb : xM} {s : tpS} (hx : tpM f L u Mb o s M) (hle : s.1 ≤ L) (h60 : L ≤ 60) {b : Int32} (hb : tp_lk f L s.1 = b) {w : Option Value} (n43 : ¬ b = 43) (n45 : ¬ b = 45)  (k1 : ∀ M', tpM f L u Mb (o) (s) M' → Q none (mk M' T)) : Rn ro (d + 4) M_X8_sum 4 [some (.ref 64), w] [] (mk M T) Q := by
  refine R_go 2 (pc' := 8) (L' := [some (.ref 64), w]) (st' := [.int (M 61 15)]) (h' := mk M T) (fun _ => rfl) ?_
  refine R_top (y := 0) (hx.2.2.2.1.2.1) ?_
  refine R_go 2 (pc' := 12) (L' := [some (.ref 64), w]) (st' := [.ref 64]) (h' := mk M T) (fun _ => rfl) ?_
  refine R_callD (i := .invokevirtual 110) (kd := 0) (y := M_X8_look) (as := [.ref 64]) (r := []) (L0 := [some (.ref 64)]) (v := some (.int (tp_lk f L s.1))) (h' := mk M T) (pc' := 15) (st' := [.int (tp_lk f L s.1)]) rfl rfl rfl rfl rfl rfl (tm_look hx hle h60) ?_
  refine R_top (y := b) hb ?_
  refine R_if 2 (c := b = 43) (t := 29) (f := 20) (L' := [some (.ref 64), w]) (st' := []) (h' := mk M T) (fun _ => rfl) (fun g1 => ?_) (fun g1 => ?_)
  · exact absurd g1 (n43)
  · refine R_go 1 (pc' := 21) (L' := [some (.ref 64), w]) (st' := [.ref 64]) (h' := mk M T) (fun _ => rfl) ?_
    refine R_callD (i := .invokevirtual 110) (kd := 0) (y := M_X8_look) (as := [.ref 64]) (r := []) (L0 := [some (.ref 64)]) (v := some (.int (tp_lk f L s.1))) (h' := mk M T) (pc' := 24) (st' := [.int (tp_lk f L s.1)]) rfl rfl rfl rfl rfl rfl (tm_look hx hle h60) ?_
    refine R_top (y := b) hb ?_
    refine R_ifn 2 (c := b = 45) (t := 57) (f := 29) (L' := [some (.ref 64), w]) (st' := []) (h' := mk M T) (fun _ => rfl) (fun g2 => ?_) (fun g2 => ?_)
    · refine R_ret 1 (pcr := 57) (v := none) (h' := mk M T) (fun _ => rfl) ?_
      exact k1 _ hx
    · exact absurd g2 (n45)
set_option maxRecDepth 100000 in
set_option maxHeartbeats 4000000 in
theorem tm_sum_t43_g {ro : xRO} {d : Nat} {M : xM} {T : Nat} {Q : Option Value → xH → Prop} {f : Nat → Int32} {L u o : Nat} {Mb : xM} {s : tpS} (hx : tpM f L u Mb o s M) (hle : s.1 ≤ L) (h60 : L ≤ 60) (hb : tp_lk f L s.1 = 43) {w : Option Value} {s1 : tpS} (hsub : Rn ro (d + 3) M_X8_times 0 [some (.ref 64), none] [] (mk (up M 61 13 (nI (s.1 + 1))) T) (fun rr h => ∃ M1, tpM f L u Mb (o) (s1) M1 ∧ rr = none ∧ h = mk M1 T)) (hs : s1.2.1 < 60) (k1 : ∀ M', tpM f L u Mb (o) (tp_psh s1 43 0) M' → Rn ro (d + 4) M_X8_sum 4 [some (.ref 64), some (.int 43)] [] (mk M' T) Q) : Rn ro (d + 4) M_X8_sum 4 [some (.ref 64), w] [] (mk M T) Q := by
  refine R_go 2 (pc' := 8) (L' := [some (.ref 64), w]) (st' := [.int (M 61 15)]) (h' := mk M T) (fun _ => rfl) ?_
  refine R_top (y := 0) (hx.2.2.2.1.2.1) ?_
  refine R_go 2 (pc' := 12) (L' := [some (.ref 64), w]) (st' := [.ref 64]) (h' := mk M T) (fun _ => rfl) ?_
  refine R_callD (i := .invokevirtual 110) (kd := 0) (y := M_X8_look) (as := [.ref 64]) (r := []) (L0 := [some (.ref 64)]) (v := some (.int (tp_lk f L s.1))) (h' := mk M T) (pc' := 15) (st' := [.int (tp_lk f L s.1)]) rfl rfl rfl rfl rfl rfl (tm_look hx hle h60) ?_
  refine R_top (y := 43) hb ?_
  refine R_go 3 (pc' := 30) (L' := [some (.ref 64), w]) (st' := [.ref 64]) (h' := mk M T) (fun _ => rfl) ?_
  refine R_callD (i := .invokevirtual 110) (kd := 0) (y := M_X8_look) (as := [.ref 64]) (r := []) (L0 := [some (.ref 64)]) (v := some (.int (tp_lk f L s.1))) (h' := mk M T) (pc' := 33) (st' := [.int (tp_lk f L s.1)]) rfl rfl rfl rfl rfl rfl (tm_look hx hle h60) ?_
  refine R_top (y := 43) hb ?_
  refine R_go 4 (pc' := 39) (L' := [some (.ref 64), some (.int 43)]) (st' := [.int (M 61 13), .ref 64]) (h' := mk M T) (fun _ => rfl) ?_
  refine R_top (y := nI s.1) (hx.1) ?_
  refine R_go 2 (pc' := 41) (L' := [some (.ref 64), some (.int 43)]) (st' := [.int (nI s.1 + 1), .ref 64]) (h' := mk M T) (fun _ => rfl) ?_
  refine R_top (nI_add s.1 1) ?_
  refine R_go 2 (pc' := 45) (L' := [some (.ref 64), some (.int 43)]) (st' := [.ref 64]) (h' := mk (up M 61 13 (nI (s.1 + 1))) T) (fun _ => rfl) ?_
  refine R_callE (i := .invokevirtual 141) (kd := 0) (y := M_X8_times) (as := [.ref 64]) (r := []) (L0 := [some (.ref 64), none]) (v := fun M1 => none) (h' := fun M1 => mk M1 T) (pc' := 48) (st' := fun M1 => []) rfl rfl rfl rfl rfl rfl (hsub) (fun M1 g1 => ?_)
  have hx1 := g1
  refine R_go 3 (pc' := 51) (L' := [some (.ref 64), some (.int 43)]) (st' := [.int 0, .int 43, .ref 64]) (h' := mk M1 T) (fun _ => rfl) ?_
  refine R_callD (i := .invokevirtual 118) (kd := 0) (y := M_X8_step) (as := [.ref 64, .int 43, .int 0]) (r := []) (L0 := [some (.ref 64), some (.int 43), some (.int 0)]) (v := none) (h' := mk (up (up (up M1 68 s1.2.1 43) 69 s1.2.1 0) 61 12 (nI (s1.2.1 + 1))) T) (pc' := 54) (st' := []) rfl rfl rfl rfl rfl rfl (tm_step (M := M1) (k := s1.2.1) hx1.2.1 (by omega)) ?_
  refine R_go 1 (pc' := 4) (L' := [some (.ref 64), some (.int 43)]) (st' := []) (h' := mk (up (up (up M1 68 s1.2.1 43) 69 s1.2.1 0) 61 12 (nI (s1.2.1 + 1))) T) (fun _ => rfl) ?_
  exact k1 _ hx1.psh
set_option maxRecDepth 100000 in
set_option maxHeartbeats 4000000 in
theorem tm_sum_t43_f {ro : xRO} {d : Nat} {M : xM} {T : Nat} {Q : Option Value → xH → Prop} {f : Nat → Int32} {L u o : Nat} {Mb : xM} {s : tpS} (hx : tpM f L u Mb o s M) (hle : s.1 ≤ L) (h60 : L ≤ 60) (hb : tp_lk f L s.1 = 43) {w : Option Value} {p : Nat} (hsub : Rn ro (d + 3) M_X8_times 0 [some (.ref 64), none] [] (mk (up M 61 13 (nI (s.1 + 1))) T) (fun rr h => ∃ M1, tpN L Mb (p) M1 ∧ rr = none ∧ h = mk M1 T))  (k1 : ∀ M', tpN L Mb (p) M' → Q none (mk M' T)) : Rn ro (d + 4) M_X8_sum 4 [some (.ref 64), w] [] (mk M T) Q := by
  refine R_go 2 (pc' := 8) (L' := [some (.ref 64), w]) (st' := [.int (M 61 15)]) (h' := mk M T) (fun _ => rfl) ?_
  refine R_top (y := 0) (hx.2.2.2.1.2.1) ?_
  refine R_go 2 (pc' := 12) (L' := [some (.ref 64), w]) (st' := [.ref 64]) (h' := mk M T) (fun _ => rfl) ?_
  refine R_callD (i := .invokevirtual 110) (kd := 0) (y := M_X8_look) (as := [.ref 64]) (r := []) (L0 := [some (.ref 64)]) (v := some (.int (tp_lk f L s.1))) (h' := mk M T) (pc' := 15) (st' := [.int (tp_lk f L s.1)]) rfl rfl rfl rfl rfl rfl (tm_look hx hle h60) ?_
  refine R_top (y := 43) hb ?_
  refine R_go 3 (pc' := 30) (L' := [some (.ref 64), w]) (st' := [.ref 64]) (h' := mk M T) (fun _ => rfl) ?_
  refine R_callD (i := .invokevirtual 110) (kd := 0) (y := M_X8_look) (as := [.ref 64]) (r := []) (L0 := [some (.ref 64)]) (v := some (.int (tp_lk f L s.1))) (h' := mk M T) (pc' := 33) (st' := [.int (tp_lk f L s.1)]) rfl rfl rfl rfl rfl rfl (tm_look hx hle h60) ?_
  refine R_top (y := 43) hb ?_
  refine R_go 4 (pc' := 39) (L' := [some (.ref 64), some (.int 43)]) (st' := [.int (M 61 13), .ref 64]) (h' := mk M T) (fun _ => rfl) ?_
  refine R_top (y := nI s.1) (hx.1) ?_
  refine R_go 2 (pc' := 41) (L' := [some (.ref 64), some (.int 43)]) (st' := [.int (nI s.1 + 1), .ref 64]) (h' := mk M T) (fun _ => rfl) ?_
  refine R_top (nI_add s.1 1) ?_
  refine R_go 2 (pc' := 45) (L' := [some (.ref 64), some (.int 43)]) (st' := [.ref 64]) (h' := mk (up M 61 13 (nI (s.1 + 1))) T) (fun _ => rfl) ?_
  refine R_callE (i := .invokevirtual 141) (kd := 0) (y := M_X8_times) (as := [.ref 64]) (r := []) (L0 := [some (.ref 64), none]) (v := fun M1 => none) (h' := fun M1 => mk M1 T) (pc' := 48) (st' := fun M1 => []) rfl rfl rfl rfl rfl rfl (hsub) (fun M1 g1 => ?_)
  have hx1 := g1
  refine R_go 3 (pc' := 51) (L' := [some (.ref 64), some (.int 43)]) (st' := [.int 0, .int 43, .ref 64]) (h' := mk M1 T) (fun _ => rfl) ?_
  refine R_callE (i := .invokevirtual 118) (kd := 0) (y := M_X8_step) (as := [.ref 64, .int 43, .int 0]) (r := []) (L0 := [some (.ref 64), some (.int 43), some (.int 0)]) (v := fun M2 => none) (h' := fun M2 => mk M2 T) (pc' := 54) (st' := fun M2 => []) rfl rfl rfl rfl rfl rfl (tm_stepN hx1) (fun M2 g2 => ?_)
  have hx2 := g2
  refine R_go 3 (pc' := 8) (L' := [some (.ref 64), some (.int 43)]) (st' := [.int (M2 61 15)]) (h' := mk M2 T) (fun _ => rfl) ?_
  refine R_top (y := 1) (hx2.2.2.1) ?_
  refine R_ret 2 (pcr := 57) (v := none) (h' := mk M2 T) (fun _ => rfl) ?_
  exact k1 _ hx2
set_option maxRecDepth 100000 in
set_option maxHeartbeats 4000000 in
theorem tm_sum_t45_g {ro : xRO} {d : Nat} {M : xM} {T : Nat} {Q : Option Value → xH → Prop} {f : Nat → Int32} {L u o : Nat} {Mb : xM} {s : tpS} (hx : tpM f L u Mb o s M) (hle : s.1 ≤ L) (h60 : L ≤ 60) (hb : tp_lk f L s.1 = 45) {w : Option Value} {s1 : tpS} (hsub : Rn ro (d + 3) M_X8_times 0 [some (.ref 64), none] [] (mk (up M 61 13 (nI (s.1 + 1))) T) (fun rr h => ∃ M1, tpM f L u Mb (o) (s1) M1 ∧ rr = none ∧ h = mk M1 T)) (hs : s1.2.1 < 60) (k1 : ∀ M', tpM f L u Mb (o) (tp_psh s1 45 0) M' → Rn ro (d + 4) M_X8_sum 4 [some (.ref 64), some (.int 45)] [] (mk M' T) Q) : Rn ro (d + 4) M_X8_sum 4 [some (.ref 64), w] [] (mk M T) Q := by
  refine R_go 2 (pc' := 8) (L' := [some (.ref 64), w]) (st' := [.int (M 61 15)]) (h' := mk M T) (fun _ => rfl) ?_
  refine R_top (y := 0) (hx.2.2.2.1.2.1) ?_
  refine R_go 2 (pc' := 12) (L' := [some (.ref 64), w]) (st' := [.ref 64]) (h' := mk M T) (fun _ => rfl) ?_
  refine R_callD (i := .invokevirtual 110) (kd := 0) (y := M_X8_look) (as := [.ref 64]) (r := []) (L0 := [some (.ref 64)]) (v := some (.int (tp_lk f L s.1))) (h' := mk M T) (pc' := 15) (st' := [.int (tp_lk f L s.1)]) rfl rfl rfl rfl rfl rfl (tm_look hx hle h60) ?_
  refine R_top (y := 45) hb ?_
  refine R_go 3 (pc' := 21) (L' := [some (.ref 64), w]) (st' := [.ref 64]) (h' := mk M T) (fun _ => rfl) ?_
  refine R_callD (i := .invokevirtual 110) (kd := 0) (y := M_X8_look) (as := [.ref 64]) (r := []) (L0 := [some (.ref 64)]) (v := some (.int (tp_lk f L s.1))) (h' := mk M T) (pc' := 24) (st' := [.int (tp_lk f L s.1)]) rfl rfl rfl rfl rfl rfl (tm_look hx hle h60) ?_
  refine R_top (y := 45) hb ?_
  refine R_go 3 (pc' := 30) (L' := [some (.ref 64), w]) (st' := [.ref 64]) (h' := mk M T) (fun _ => rfl) ?_
  refine R_callD (i := .invokevirtual 110) (kd := 0) (y := M_X8_look) (as := [.ref 64]) (r := []) (L0 := [some (.ref 64)]) (v := some (.int (tp_lk f L s.1))) (h' := mk M T) (pc' := 33) (st' := [.int (tp_lk f L s.1)]) rfl rfl rfl rfl rfl rfl (tm_look hx hle h60) ?_
  refine R_top (y := 45) hb ?_
  refine R_go 4 (pc' := 39) (L' := [some (.ref 64), some (.int 45)]) (st' := [.int (M 61 13), .ref 64]) (h' := mk M T) (fun _ => rfl) ?_
  refine R_top (y := nI s.1) (hx.1) ?_
  refine R_go 2 (pc' := 41) (L' := [some (.ref 64), some (.int 45)]) (st' := [.int (nI s.1 + 1), .ref 64]) (h' := mk M T) (fun _ => rfl) ?_
  refine R_top (nI_add s.1 1) ?_
  refine R_go 2 (pc' := 45) (L' := [some (.ref 64), some (.int 45)]) (st' := [.ref 64]) (h' := mk (up M 61 13 (nI (s.1 + 1))) T) (fun _ => rfl) ?_
  refine R_callE (i := .invokevirtual 141) (kd := 0) (y := M_X8_times) (as := [.ref 64]) (r := []) (L0 := [some (.ref 64), none]) (v := fun M1 => none) (h' := fun M1 => mk M1 T) (pc' := 48) (st' := fun M1 => []) rfl rfl rfl rfl rfl rfl (hsub) (fun M1 g1 => ?_)
  have hx1 := g1
  refine R_go 3 (pc' := 51) (L' := [some (.ref 64), some (.int 45)]) (st' := [.int 0, .int 45, .ref 64]) (h' := mk M1 T) (fun _ => rfl) ?_
  refine R_callD (i := .invokevirtual 118) (kd := 0) (y := M_X8_step) (as := [.ref 64, .int 45, .int 0]) (r := []) (L0 := [some (.ref 64), some (.int 45), some (.int 0)]) (v := none) (h' := mk (up (up (up M1 68 s1.2.1 45) 69 s1.2.1 0) 61 12 (nI (s1.2.1 + 1))) T) (pc' := 54) (st' := []) rfl rfl rfl rfl rfl rfl (tm_step (M := M1) (k := s1.2.1) hx1.2.1 (by omega)) ?_
  refine R_go 1 (pc' := 4) (L' := [some (.ref 64), some (.int 45)]) (st' := []) (h' := mk (up (up (up M1 68 s1.2.1 45) 69 s1.2.1 0) 61 12 (nI (s1.2.1 + 1))) T) (fun _ => rfl) ?_
  exact k1 _ hx1.psh
set_option maxRecDepth 100000 in
set_option maxHeartbeats 4000000 in
theorem tm_sum_t45_f {ro : xRO} {d : Nat} {M : xM} {T : Nat} {Q : Option Value → xH → Prop} {f : Nat → Int32} {L u o : Nat} {Mb : xM} {s : tpS} (hx : tpM f L u Mb o s M) (hle : s.1 ≤ L) (h60 : L ≤ 60) (hb : tp_lk f L s.1 = 45) {w : Option Value} {p : Nat} (hsub : Rn ro (d + 3) M_X8_times 0 [some (.ref 64), none] [] (mk (up M 61 13 (nI (s.1 + 1))) T) (fun rr h => ∃ M1, tpN L Mb (p) M1 ∧ rr = none ∧ h = mk M1 T))  (k1 : ∀ M', tpN L Mb (p) M' → Q none (mk M' T)) : Rn ro (d + 4) M_X8_sum 4 [some (.ref 64), w] [] (mk M T) Q := by
  refine R_go 2 (pc' := 8) (L' := [some (.ref 64), w]) (st' := [.int (M 61 15)]) (h' := mk M T) (fun _ => rfl) ?_
  refine R_top (y := 0) (hx.2.2.2.1.2.1) ?_
  refine R_go 2 (pc' := 12) (L' := [some (.ref 64), w]) (st' := [.ref 64]) (h' := mk M T) (fun _ => rfl) ?_
  refine R_callD (i := .invokevirtual 110) (kd := 0) (y := M_X8_look) (as := [.ref 64]) (r := []) (L0 := [some (.ref 64)]) (v := some (.int (tp_lk f L s.1))) (h' := mk M T) (pc' := 15) (st' := [.int (tp_lk f L s.1)]) rfl rfl rfl rfl rfl rfl (tm_look hx hle h60) ?_
  refine R_top (y := 45) hb ?_
  refine R_go 3 (pc' := 21) (L' := [some (.ref 64), w]) (st' := [.ref 64]) (h' := mk M T) (fun _ => rfl) ?_
  refine R_callD (i := .invokevirtual 110) (kd := 0) (y := M_X8_look) (as := [.ref 64]) (r := []) (L0 := [some (.ref 64)]) (v := some (.int (tp_lk f L s.1))) (h' := mk M T) (pc' := 24) (st' := [.int (tp_lk f L s.1)]) rfl rfl rfl rfl rfl rfl (tm_look hx hle h60) ?_
  refine R_top (y := 45) hb ?_
  refine R_go 3 (pc' := 30) (L' := [some (.ref 64), w]) (st' := [.ref 64]) (h' := mk M T) (fun _ => rfl) ?_
  refine R_callD (i := .invokevirtual 110) (kd := 0) (y := M_X8_look) (as := [.ref 64]) (r := []) (L0 := [some (.ref 64)]) (v := some (.int (tp_lk f L s.1))) (h' := mk M T) (pc' := 33) (st' := [.int (tp_lk f L s.1)]) rfl rfl rfl rfl rfl rfl (tm_look hx hle h60) ?_
  refine R_top (y := 45) hb ?_
  refine R_go 4 (pc' := 39) (L' := [some (.ref 64), some (.int 45)]) (st' := [.int (M 61 13), .ref 64]) (h' := mk M T) (fun _ => rfl) ?_
  refine R_top (y := nI s.1) (hx.1) ?_
  refine R_go 2 (pc' := 41) (L' := [some (.ref 64), some (.int 45)]) (st' := [.int (nI s.1 + 1), .ref 64]) (h' := mk M T) (fun _ => rfl) ?_
  refine R_top (nI_add s.1 1) ?_
  refine R_go 2 (pc' := 45) (L' := [some (.ref 64), some (.int 45)]) (st' := [.ref 64]) (h' := mk (up M 61 13 (nI (s.1 + 1))) T) (fun _ => rfl) ?_
  refine R_callE (i := .invokevirtual 141) (kd := 0) (y := M_X8_times) (as := [.ref 64]) (r := []) (L0 := [some (.ref 64), none]) (v := fun M1 => none) (h' := fun M1 => mk M1 T) (pc' := 48) (st' := fun M1 => []) rfl rfl rfl rfl rfl rfl (hsub) (fun M1 g1 => ?_)
  have hx1 := g1
  refine R_go 3 (pc' := 51) (L' := [some (.ref 64), some (.int 45)]) (st' := [.int 0, .int 45, .ref 64]) (h' := mk M1 T) (fun _ => rfl) ?_
  refine R_callE (i := .invokevirtual 118) (kd := 0) (y := M_X8_step) (as := [.ref 64, .int 45, .int 0]) (r := []) (L0 := [some (.ref 64), some (.int 45), some (.int 0)]) (v := fun M2 => none) (h' := fun M2 => mk M2 T) (pc' := 54) (st' := fun M2 => []) rfl rfl rfl rfl rfl rfl (tm_stepN hx1) (fun M2 g2 => ?_)
  have hx2 := g2
  refine R_go 3 (pc' := 8) (L' := [some (.ref 64), some (.int 45)]) (st' := [.int (M2 61 15)]) (h' := mk M2 T) (fun _ => rfl) ?_
  refine R_top (y := 1) (hx2.2.2.1) ?_
  refine R_ret 2 (pcr := 57) (v := none) (h' := mk M2 T) (fun _ => rfl) ?_
  exact k1 _ hx2
set_option maxRecDepth 100000 in
set_option maxHeartbeats 4000000 in
theorem tm_all_in_f {ro : xRO} {d : Nat} {M : xM} {T : Nat} {Q : Option Value → xH → Prop} {f : Nat → Int32} {L u o : Nat} {Mb : xM} {p : Nat} (hsub : Rn ro (d + 3) M_X8_compares 0 [some (.ref 64), none] [] (mk M T) (fun rr h => ∃ M1, tpN L Mb (p) M1 ∧ rr = none ∧ h = mk M1 T))  (k1 : ∀ M', tpN L Mb (p) M' → Q none (mk M' T)) : Rn ro (d + 4) M_X8_all 0 [some (.ref 64)] [] (mk M T) Q := by
  refine R_go 1 (pc' := 1) (L' := [some (.ref 64)]) (st' := [.ref 64]) (h' := mk M T) (fun _ => rfl) ?_
  refine R_callE (i := .invokevirtual 147) (kd := 0) (y := M_X8_compares) (as := [.ref 64]) (r := []) (L0 := [some (.ref 64), none]) (v := fun M1 => none) (h' := fun M1 => mk M1 T) (pc' := 4) (st' := fun M1 => []) rfl rfl rfl rfl rfl rfl (hsub) (fun M1 g1 => ?_)
  have hx1 := g1
  refine R_go 2 (pc' := 8) (L' := [some (.ref 64)]) (st' := [.int (M1 61 15)]) (h' := mk M1 T) (fun _ => rfl) ?_
  refine R_top (y := 1) (hx1.2.2.1) ?_
  refine R_ret 2 (pcr := 44) (v := none) (h' := mk M1 T) (fun _ => rfl) ?_
  exact k1 _ hx1
set_option maxRecDepth 100000 in
set_option maxHeartbeats 4000000 in
theorem tm_all_in_g {ro : xRO} {d : Nat} {M : xM} {T : Nat} {Q : Option Value → xH → Prop} {f : Nat → Int32} {L u o : Nat} {Mb : xM} {s1 : tpS} (hsub : Rn ro (d + 3) M_X8_compares 0 [some (.ref 64), none] [] (mk M T) (fun rr h => ∃ M1, tpM f L u Mb (o) (s1) M1 ∧ rr = none ∧ h = mk M1 T))  (k1 : ∀ M', tpM f L u Mb (o) (s1) M' → Rn ro (d + 4) M_X8_all 4 [some (.ref 64)] [] (mk M' T) Q) : Rn ro (d + 4) M_X8_all 0 [some (.ref 64)] [] (mk M T) Q := by
  refine R_go 1 (pc' := 1) (L' := [some (.ref 64)]) (st' := [.ref 64]) (h' := mk M T) (fun _ => rfl) ?_
  refine R_callE (i := .invokevirtual 147) (kd := 0) (y := M_X8_compares) (as := [.ref 64]) (r := []) (L0 := [some (.ref 64), none]) (v := fun M1 => none) (h' := fun M1 => mk M1 T) (pc' := 4) (st' := fun M1 => []) rfl rfl rfl rfl rfl rfl (hsub) (fun M1 g1 => ?_)
  have hx1 := g1
  exact k1 _ hx1
set_option maxRecDepth 100000 in
set_option maxHeartbeats 4000000 in
theorem tm_all_o {ro : xRO} {d : Nat} {M : xM} {T : Nat} {Q : Option Value → xH → Prop} {f : Nat → Int32} {L u o : Nat} {Mb : xM} {s : tpS} (hx : tpM f L u Mb o s M) (hle : s.1 ≤ L) (h60 : L ≤ 60) {b : Int32} (hb : tp_lk f L s.1 = b) (n38 : ¬ b = 38)  (k1 : ∀ M', tpM f L u Mb (o) (s) M' → Q none (mk M' T)) : Rn ro (d + 4) M_X8_all 4 [some (.ref 64)] [] (mk M T) Q := by
  refine R_go 2 (pc' := 8) (L' := [some (.ref 64)]) (st' := [.int (M 61 15)]) (h' := mk M T) (fun _ => rfl) ?_
  refine R_top (y := 0) (hx.2.2.2.1.2.1) ?_
  refine R_go 2 (pc' := 12) (L' := [some (.ref 64)]) (st' := [.ref 64]) (h' := mk M T) (fun _ => rfl) ?_
  refine R_callD (i := .invokevirtual 110) (kd := 0) (y := M_X8_look) (as := [.ref 64]) (r := []) (L0 := [some (.ref 64)]) (v := some (.int (tp_lk f L s.1))) (h' := mk M T) (pc' := 15) (st' := [.int (tp_lk f L s.1)]) rfl rfl rfl rfl rfl rfl (tm_look hx hle h60) ?_
  refine R_top (y := b) hb ?_
  refine R_ifn 2 (c := b = 38) (t := 44) (f := 20) (L' := [some (.ref 64)]) (st' := []) (h' := mk M T) (fun _ => rfl) (fun g1 => ?_) (fun g1 => ?_)
  · refine R_ret 1 (pcr := 44) (v := none) (h' := mk M T) (fun _ => rfl) ?_
    exact k1 _ hx
  · exact absurd g1 (n38)
set_option maxRecDepth 100000 in
set_option maxHeartbeats 4000000 in
theorem tm_all_t38_g {ro : xRO} {d : Nat} {M : xM} {T : Nat} {Q : Option Value → xH → Prop} {f : Nat → Int32} {L u o : Nat} {Mb : xM} {s : tpS} (hx : tpM f L u Mb o s M) (hle : s.1 ≤ L) (h60 : L ≤ 60) (hb : tp_lk f L s.1 = 38) {s1 : tpS} (hsub : Rn ro (d + 3) M_X8_compares 0 [some (.ref 64), none] [] (mk (up M 61 13 (nI (s.1 + 1))) T) (fun rr h => ∃ M1, tpM f L u Mb (o) (s1) M1 ∧ rr = none ∧ h = mk M1 T)) (hs : s1.2.1 < 60) (k1 : ∀ M', tpM f L u Mb (o) (tp_psh s1 38 0) M' → Rn ro (d + 4) M_X8_all 4 [some (.ref 64)] [] (mk M' T) Q) : Rn ro (d + 4) M_X8_all 4 [some (.ref 64)] [] (mk M T) Q := by
  refine R_go 2 (pc' := 8) (L' := [some (.ref 64)]) (st' := [.int (M 61 15)]) (h' := mk M T) (fun _ => rfl) ?_
  refine R_top (y := 0) (hx.2.2.2.1.2.1) ?_
  refine R_go 2 (pc' := 12) (L' := [some (.ref 64)]) (st' := [.ref 64]) (h' := mk M T) (fun _ => rfl) ?_
  refine R_callD (i := .invokevirtual 110) (kd := 0) (y := M_X8_look) (as := [.ref 64]) (r := []) (L0 := [some (.ref 64)]) (v := some (.int (tp_lk f L s.1))) (h' := mk M T) (pc' := 15) (st' := [.int (tp_lk f L s.1)]) rfl rfl rfl rfl rfl rfl (tm_look hx hle h60) ?_
  refine R_top (y := 38) hb ?_
  refine R_go 5 (pc' := 25) (L' := [some (.ref 64)]) (st' := [.int (M 61 13), .ref 64]) (h' := mk M T) (fun _ => rfl) ?_
  refine R_top (y := nI s.1) (hx.1) ?_
  refine R_go 2 (pc' := 27) (L' := [some (.ref 64)]) (st' := [.int (nI s.1 + 1), .ref 64]) (h' := mk M T) (fun _ => rfl) ?_
  refine R_top (nI_add s.1 1) ?_
  refine R_go 2 (pc' := 31) (L' := [some (.ref 64)]) (st' := [.ref 64]) (h' := mk (up M 61 13 (nI (s.1 + 1))) T) (fun _ => rfl) ?_
  refine R_callE (i := .invokevirtual 147) (kd := 0) (y := M_X8_compares) (as := [.ref 64]) (r := []) (L0 := [some (.ref 64), none]) (v := fun M1 => none) (h' := fun M1 => mk M1 T) (pc' := 34) (st' := fun M1 => []) rfl rfl rfl rfl rfl rfl (hsub) (fun M1 g1 => ?_)
  have hx1 := g1
  refine R_go 3 (pc' := 38) (L' := [some (.ref 64)]) (st' := [.int 0, .int 38, .ref 64]) (h' := mk M1 T) (fun _ => rfl) ?_
  refine R_callD (i := .invokevirtual 118) (kd := 0) (y := M_X8_step) (as := [.ref 64, .int 38, .int 0]) (r := []) (L0 := [some (.ref 64), some (.int 38), some (.int 0)]) (v := none) (h' := mk (up (up (up M1 68 s1.2.1 38) 69 s1.2.1 0) 61 12 (nI (s1.2.1 + 1))) T) (pc' := 41) (st' := []) rfl rfl rfl rfl rfl rfl (tm_step (M := M1) (k := s1.2.1) hx1.2.1 (by omega)) ?_
  refine R_go 1 (pc' := 4) (L' := [some (.ref 64)]) (st' := []) (h' := mk (up (up (up M1 68 s1.2.1 38) 69 s1.2.1 0) 61 12 (nI (s1.2.1 + 1))) T) (fun _ => rfl) ?_
  exact k1 _ hx1.psh
set_option maxRecDepth 100000 in
set_option maxHeartbeats 4000000 in
theorem tm_all_t38_f {ro : xRO} {d : Nat} {M : xM} {T : Nat} {Q : Option Value → xH → Prop} {f : Nat → Int32} {L u o : Nat} {Mb : xM} {s : tpS} (hx : tpM f L u Mb o s M) (hle : s.1 ≤ L) (h60 : L ≤ 60) (hb : tp_lk f L s.1 = 38) {p : Nat} (hsub : Rn ro (d + 3) M_X8_compares 0 [some (.ref 64), none] [] (mk (up M 61 13 (nI (s.1 + 1))) T) (fun rr h => ∃ M1, tpN L Mb (p) M1 ∧ rr = none ∧ h = mk M1 T))  (k1 : ∀ M', tpN L Mb (p) M' → Q none (mk M' T)) : Rn ro (d + 4) M_X8_all 4 [some (.ref 64)] [] (mk M T) Q := by
  refine R_go 2 (pc' := 8) (L' := [some (.ref 64)]) (st' := [.int (M 61 15)]) (h' := mk M T) (fun _ => rfl) ?_
  refine R_top (y := 0) (hx.2.2.2.1.2.1) ?_
  refine R_go 2 (pc' := 12) (L' := [some (.ref 64)]) (st' := [.ref 64]) (h' := mk M T) (fun _ => rfl) ?_
  refine R_callD (i := .invokevirtual 110) (kd := 0) (y := M_X8_look) (as := [.ref 64]) (r := []) (L0 := [some (.ref 64)]) (v := some (.int (tp_lk f L s.1))) (h' := mk M T) (pc' := 15) (st' := [.int (tp_lk f L s.1)]) rfl rfl rfl rfl rfl rfl (tm_look hx hle h60) ?_
  refine R_top (y := 38) hb ?_
  refine R_go 5 (pc' := 25) (L' := [some (.ref 64)]) (st' := [.int (M 61 13), .ref 64]) (h' := mk M T) (fun _ => rfl) ?_
  refine R_top (y := nI s.1) (hx.1) ?_
  refine R_go 2 (pc' := 27) (L' := [some (.ref 64)]) (st' := [.int (nI s.1 + 1), .ref 64]) (h' := mk M T) (fun _ => rfl) ?_
  refine R_top (nI_add s.1 1) ?_
  refine R_go 2 (pc' := 31) (L' := [some (.ref 64)]) (st' := [.ref 64]) (h' := mk (up M 61 13 (nI (s.1 + 1))) T) (fun _ => rfl) ?_
  refine R_callE (i := .invokevirtual 147) (kd := 0) (y := M_X8_compares) (as := [.ref 64]) (r := []) (L0 := [some (.ref 64), none]) (v := fun M1 => none) (h' := fun M1 => mk M1 T) (pc' := 34) (st' := fun M1 => []) rfl rfl rfl rfl rfl rfl (hsub) (fun M1 g1 => ?_)
  have hx1 := g1
  refine R_go 3 (pc' := 38) (L' := [some (.ref 64)]) (st' := [.int 0, .int 38, .ref 64]) (h' := mk M1 T) (fun _ => rfl) ?_
  refine R_callE (i := .invokevirtual 118) (kd := 0) (y := M_X8_step) (as := [.ref 64, .int 38, .int 0]) (r := []) (L0 := [some (.ref 64), some (.int 38), some (.int 0)]) (v := fun M2 => none) (h' := fun M2 => mk M2 T) (pc' := 41) (st' := fun M2 => []) rfl rfl rfl rfl rfl rfl (tm_stepN hx1) (fun M2 g2 => ?_)
  have hx2 := g2
  refine R_go 3 (pc' := 8) (L' := [some (.ref 64)]) (st' := [.int (M2 61 15)]) (h' := mk M2 T) (fun _ => rfl) ?_
  refine R_top (y := 1) (hx2.2.2.1) ?_
  refine R_ret 2 (pcr := 44) (v := none) (h' := mk M2 T) (fun _ => rfl) ?_
  exact k1 _ hx2
set_option maxRecDepth 100000 in
set_option maxHeartbeats 4000000 in
theorem tm_any_in_f {ro : xRO} {d : Nat} {M : xM} {T : Nat} {Q : Option Value → xH → Prop} {f : Nat → Int32} {L u o : Nat} {Mb : xM} {p : Nat} (hsub : Rn ro (d + 3) M_X8_all 0 [some (.ref 64)] [] (mk M T) (fun rr h => ∃ M1, tpN L Mb (p) M1 ∧ rr = none ∧ h = mk M1 T))  (k1 : ∀ M', tpN L Mb (p) M' → Q none (mk M' T)) : Rn ro (d + 4) M_X8_any 0 [some (.ref 64)] [] (mk M T) Q := by
  refine R_go 1 (pc' := 1) (L' := [some (.ref 64)]) (st' := [.ref 64]) (h' := mk M T) (fun _ => rfl) ?_
  refine R_callE (i := .invokevirtual 150) (kd := 0) (y := M_X8_all) (as := [.ref 64]) (r := []) (L0 := [some (.ref 64)]) (v := fun M1 => none) (h' := fun M1 => mk M1 T) (pc' := 4) (st' := fun M1 => []) rfl rfl rfl rfl rfl rfl (hsub) (fun M1 g1 => ?_)
  have hx1 := g1
  refine R_go 2 (pc' := 8) (L' := [some (.ref 64)]) (st' := [.int (M1 61 15)]) (h' := mk M1 T) (fun _ => rfl) ?_
  refine R_top (y := 1) (hx1.2.2.1) ?_
  refine R_ret 2 (pcr := 44) (v := none) (h' := mk M1 T) (fun _ => rfl) ?_
  exact k1 _ hx1
set_option maxRecDepth 100000 in
set_option maxHeartbeats 4000000 in
theorem tm_any_in_g {ro : xRO} {d : Nat} {M : xM} {T : Nat} {Q : Option Value → xH → Prop} {f : Nat → Int32} {L u o : Nat} {Mb : xM} {s1 : tpS} (hsub : Rn ro (d + 3) M_X8_all 0 [some (.ref 64)] [] (mk M T) (fun rr h => ∃ M1, tpM f L u Mb (o) (s1) M1 ∧ rr = none ∧ h = mk M1 T))  (k1 : ∀ M', tpM f L u Mb (o) (s1) M' → Rn ro (d + 4) M_X8_any 4 [some (.ref 64)] [] (mk M' T) Q) : Rn ro (d + 4) M_X8_any 0 [some (.ref 64)] [] (mk M T) Q := by
  refine R_go 1 (pc' := 1) (L' := [some (.ref 64)]) (st' := [.ref 64]) (h' := mk M T) (fun _ => rfl) ?_
  refine R_callE (i := .invokevirtual 150) (kd := 0) (y := M_X8_all) (as := [.ref 64]) (r := []) (L0 := [some (.ref 64)]) (v := fun M1 => none) (h' := fun M1 => mk M1 T) (pc' := 4) (st' := fun M1 => []) rfl rfl rfl rfl rfl rfl (hsub) (fun M1 g1 => ?_)
  have hx1 := g1
  exact k1 _ hx1
set_option maxRecDepth 100000 in
set_option maxHeartbeats 4000000 in
theorem tm_any_o {ro : xRO} {d : Nat} {M : xM} {T : Nat} {Q : Option Value → xH → Prop} {f : Nat → Int32} {L u o : Nat} {Mb : xM} {s : tpS} (hx : tpM f L u Mb o s M) (hle : s.1 ≤ L) (h60 : L ≤ 60) {b : Int32} (hb : tp_lk f L s.1 = b) (n124 : ¬ b = 124)  (k1 : ∀ M', tpM f L u Mb (o) (s) M' → Q none (mk M' T)) : Rn ro (d + 4) M_X8_any 4 [some (.ref 64)] [] (mk M T) Q := by
  refine R_go 2 (pc' := 8) (L' := [some (.ref 64)]) (st' := [.int (M 61 15)]) (h' := mk M T) (fun _ => rfl) ?_
  refine R_top (y := 0) (hx.2.2.2.1.2.1) ?_
  refine R_go 2 (pc' := 12) (L' := [some (.ref 64)]) (st' := [.ref 64]) (h' := mk M T) (fun _ => rfl) ?_
  refine R_callD (i := .invokevirtual 110) (kd := 0) (y := M_X8_look) (as := [.ref 64]) (r := []) (L0 := [some (.ref 64)]) (v := some (.int (tp_lk f L s.1))) (h' := mk M T) (pc' := 15) (st' := [.int (tp_lk f L s.1)]) rfl rfl rfl rfl rfl rfl (tm_look hx hle h60) ?_
  refine R_top (y := b) hb ?_
  refine R_ifn 2 (c := b = 124) (t := 44) (f := 20) (L' := [some (.ref 64)]) (st' := []) (h' := mk M T) (fun _ => rfl) (fun g1 => ?_) (fun g1 => ?_)
  · refine R_ret 1 (pcr := 44) (v := none) (h' := mk M T) (fun _ => rfl) ?_
    exact k1 _ hx
  · exact absurd g1 (n124)
set_option maxRecDepth 100000 in
set_option maxHeartbeats 4000000 in
theorem tm_any_t124_g {ro : xRO} {d : Nat} {M : xM} {T : Nat} {Q : Option Value → xH → Prop} {f : Nat → Int32} {L u o : Nat} {Mb : xM} {s : tpS} (hx : tpM f L u Mb o s M) (hle : s.1 ≤ L) (h60 : L ≤ 60) (hb : tp_lk f L s.1 = 124) {s1 : tpS} (hsub : Rn ro (d + 3) M_X8_all 0 [some (.ref 64)] [] (mk (up M 61 13 (nI (s.1 + 1))) T) (fun rr h => ∃ M1, tpM f L u Mb (o) (s1) M1 ∧ rr = none ∧ h = mk M1 T)) (hs : s1.2.1 < 60) (k1 : ∀ M', tpM f L u Mb (o) (tp_psh s1 124 0) M' → Rn ro (d + 4) M_X8_any 4 [some (.ref 64)] [] (mk M' T) Q) : Rn ro (d + 4) M_X8_any 4 [some (.ref 64)] [] (mk M T) Q := by
  refine R_go 2 (pc' := 8) (L' := [some (.ref 64)]) (st' := [.int (M 61 15)]) (h' := mk M T) (fun _ => rfl) ?_
  refine R_top (y := 0) (hx.2.2.2.1.2.1) ?_
  refine R_go 2 (pc' := 12) (L' := [some (.ref 64)]) (st' := [.ref 64]) (h' := mk M T) (fun _ => rfl) ?_
  refine R_callD (i := .invokevirtual 110) (kd := 0) (y := M_X8_look) (as := [.ref 64]) (r := []) (L0 := [some (.ref 64)]) (v := some (.int (tp_lk f L s.1))) (h' := mk M T) (pc' := 15) (st' := [.int (tp_lk f L s.1)]) rfl rfl rfl rfl rfl rfl (tm_look hx hle h60) ?_
  refine R_top (y := 124) hb ?_
  refine R_go 5 (pc' := 25) (L' := [some (.ref 64)]) (st' := [.int (M 61 13), .ref 64]) (h' := mk M T) (fun _ => rfl) ?_
  refine R_top (y := nI s.1) (hx.1) ?_
  refine R_go 2 (pc' := 27) (L' := [some (.ref 64)]) (st' := [.int (nI s.1 + 1), .ref 64]) (h' := mk M T) (fun _ => rfl) ?_
  refine R_top (nI_add s.1 1) ?_
  refine R_go 2 (pc' := 31) (L' := [some (.ref 64)]) (st' := [.ref 64]) (h' := mk (up M 61 13 (nI (s.1 + 1))) T) (fun _ => rfl) ?_
  refine R_callE (i := .invokevirtual 150) (kd := 0) (y := M_X8_all) (as := [.ref 64]) (r := []) (L0 := [some (.ref 64)]) (v := fun M1 => none) (h' := fun M1 => mk M1 T) (pc' := 34) (st' := fun M1 => []) rfl rfl rfl rfl rfl rfl (hsub) (fun M1 g1 => ?_)
  have hx1 := g1
  refine R_go 3 (pc' := 38) (L' := [some (.ref 64)]) (st' := [.int 0, .int 124, .ref 64]) (h' := mk M1 T) (fun _ => rfl) ?_
  refine R_callD (i := .invokevirtual 118) (kd := 0) (y := M_X8_step) (as := [.ref 64, .int 124, .int 0]) (r := []) (L0 := [some (.ref 64), some (.int 124), some (.int 0)]) (v := none) (h' := mk (up (up (up M1 68 s1.2.1 124) 69 s1.2.1 0) 61 12 (nI (s1.2.1 + 1))) T) (pc' := 41) (st' := []) rfl rfl rfl rfl rfl rfl (tm_step (M := M1) (k := s1.2.1) hx1.2.1 (by omega)) ?_
  refine R_go 1 (pc' := 4) (L' := [some (.ref 64)]) (st' := []) (h' := mk (up (up (up M1 68 s1.2.1 124) 69 s1.2.1 0) 61 12 (nI (s1.2.1 + 1))) T) (fun _ => rfl) ?_
  exact k1 _ hx1.psh
set_option maxRecDepth 100000 in
set_option maxHeartbeats 4000000 in
theorem tm_any_t124_f {ro : xRO} {d : Nat} {M : xM} {T : Nat} {Q : Option Value → xH → Prop} {f : Nat → Int32} {L u o : Nat} {Mb : xM} {s : tpS} (hx : tpM f L u Mb o s M) (hle : s.1 ≤ L) (h60 : L ≤ 60) (hb : tp_lk f L s.1 = 124) {p : Nat} (hsub : Rn ro (d + 3) M_X8_all 0 [some (.ref 64)] [] (mk (up M 61 13 (nI (s.1 + 1))) T) (fun rr h => ∃ M1, tpN L Mb (p) M1 ∧ rr = none ∧ h = mk M1 T))  (k1 : ∀ M', tpN L Mb (p) M' → Q none (mk M' T)) : Rn ro (d + 4) M_X8_any 4 [some (.ref 64)] [] (mk M T) Q := by
  refine R_go 2 (pc' := 8) (L' := [some (.ref 64)]) (st' := [.int (M 61 15)]) (h' := mk M T) (fun _ => rfl) ?_
  refine R_top (y := 0) (hx.2.2.2.1.2.1) ?_
  refine R_go 2 (pc' := 12) (L' := [some (.ref 64)]) (st' := [.ref 64]) (h' := mk M T) (fun _ => rfl) ?_
  refine R_callD (i := .invokevirtual 110) (kd := 0) (y := M_X8_look) (as := [.ref 64]) (r := []) (L0 := [some (.ref 64)]) (v := some (.int (tp_lk f L s.1))) (h' := mk M T) (pc' := 15) (st' := [.int (tp_lk f L s.1)]) rfl rfl rfl rfl rfl rfl (tm_look hx hle h60) ?_
  refine R_top (y := 124) hb ?_
  refine R_go 5 (pc' := 25) (L' := [some (.ref 64)]) (st' := [.int (M 61 13), .ref 64]) (h' := mk M T) (fun _ => rfl) ?_
  refine R_top (y := nI s.1) (hx.1) ?_
  refine R_go 2 (pc' := 27) (L' := [some (.ref 64)]) (st' := [.int (nI s.1 + 1), .ref 64]) (h' := mk M T) (fun _ => rfl) ?_
  refine R_top (nI_add s.1 1) ?_
  refine R_go 2 (pc' := 31) (L' := [some (.ref 64)]) (st' := [.ref 64]) (h' := mk (up M 61 13 (nI (s.1 + 1))) T) (fun _ => rfl) ?_
  refine R_callE (i := .invokevirtual 150) (kd := 0) (y := M_X8_all) (as := [.ref 64]) (r := []) (L0 := [some (.ref 64)]) (v := fun M1 => none) (h' := fun M1 => mk M1 T) (pc' := 34) (st' := fun M1 => []) rfl rfl rfl rfl rfl rfl (hsub) (fun M1 g1 => ?_)
  have hx1 := g1
  refine R_go 3 (pc' := 38) (L' := [some (.ref 64)]) (st' := [.int 0, .int 124, .ref 64]) (h' := mk M1 T) (fun _ => rfl) ?_
  refine R_callE (i := .invokevirtual 118) (kd := 0) (y := M_X8_step) (as := [.ref 64, .int 124, .int 0]) (r := []) (L0 := [some (.ref 64), some (.int 124), some (.int 0)]) (v := fun M2 => none) (h' := fun M2 => mk M2 T) (pc' := 41) (st' := fun M2 => []) rfl rfl rfl rfl rfl rfl (tm_stepN hx1) (fun M2 g2 => ?_)
  have hx2 := g2
  refine R_go 3 (pc' := 8) (L' := [some (.ref 64)]) (st' := [.int (M2 61 15)]) (h' := mk M2 T) (fun _ => rfl) ?_
  refine R_top (y := 1) (hx2.2.2.1) ?_
  refine R_ret 2 (pcr := 44) (v := none) (h' := mk M2 T) (fun _ => rfl) ?_
  exact k1 _ hx2
set_option maxRecDepth 100000 in
set_option maxHeartbeats 4000000 in
theorem tm_compares_in_f {ro : xRO} {d : Nat} {M : xM} {T : Nat} {Q : Option Value → xH → Prop} {f : Nat → Int32} {L u o : Nat} {Mb : xM} {p : Nat} (h60 : L ≤ 60) (hp : p ≤ L) (hsub : Rn ro (d + 3) M_X8_sum 0 [some (.ref 64), none] [] (mk M T) (fun rr h => ∃ M1, tpN L Mb (p) M1 ∧ rr = none ∧ h = mk M1 T))  (k1 : ∀ M', tpN L Mb (p) M' → Q none (mk M' T)) : Rn ro (d + 4) M_X8_compares 0 [some (.ref 64), none] [] (mk M T) Q := by
  refine R_go 1 (pc' := 1) (L' := [some (.ref 64), none]) (st' := [.ref 64]) (h' := mk M T) (fun _ => rfl) ?_
  refine R_callE (i := .invokevirtual 144) (kd := 0) (y := M_X8_sum) (as := [.ref 64]) (r := []) (L0 := [some (.ref 64), none]) (v := fun M1 => none) (h' := fun M1 => mk M1 T) (pc' := 4) (st' := fun M1 => []) rfl rfl rfl rfl rfl rfl (hsub) (fun M1 g1 => ?_)
  have hx1 := g1
  refine R_go 1 (pc' := 5) (L' := [some (.ref 64), none]) (st' := [.ref 64]) (h' := mk M1 T) (fun _ => rfl) ?_
  refine R_callD (i := .invokevirtual 110) (kd := 0) (y := M_X8_look) (as := [.ref 64]) (r := []) (L0 := [some (.ref 64)]) (v := some (.int (tp_lk (fun i => M1 62 (72 + i)) L p))) (h' := mk M1 T) (pc' := 8) (st' := [.int (tp_lk (fun i => M1 62 (72 + i)) L p)]) rfl rfl rfl rfl rfl rfl (tm_look0 hx1.1 hx1.2.2.2.1 h60 (by omega)) ?_
  refine R_go 3 (pc' := 13) (L' := [some (.ref 64), some (.int (tp_lk (fun i => M1 62 (72 + i)) L p))]) (st' := [.int (M1 61 15)]) (h' := mk M1 T) (fun _ => rfl) ?_
  refine R_top (y := 1) (hx1.2.2.1) ?_
  refine R_ret 2 (pcr := 54) (v := none) (h' := mk M1 T) (fun _ => rfl) ?_
  exact k1 _ hx1
set_option maxRecDepth 100000 in
set_option maxHeartbeats 4000000 in
theorem tm_compares_in_g {ro : xRO} {d : Nat} {M : xM} {T : Nat} {Q : Option Value → xH → Prop} {f : Nat → Int32} {L u o : Nat} {Mb : xM} {s1 : tpS} (hsub : Rn ro (d + 3) M_X8_sum 0 [some (.ref 64), none] [] (mk M T) (fun rr h => ∃ M1, tpM f L u Mb (o) (s1) M1 ∧ rr = none ∧ h = mk M1 T))  (k1 : ∀ M', tpM f L u Mb (o) (s1) M' → Rn ro (d + 4) M_X8_compares 4 [some (.ref 64), none] [] (mk M' T) Q) : Rn ro (d + 4) M_X8_compares 0 [some (.ref 64), none] [] (mk M T) Q := by
  refine R_go 1 (pc' := 1) (L' := [some (.ref 64), none]) (st' := [.ref 64]) (h' := mk M T) (fun _ => rfl) ?_
  refine R_callE (i := .invokevirtual 144) (kd := 0) (y := M_X8_sum) (as := [.ref 64]) (r := []) (L0 := [some (.ref 64), none]) (v := fun M1 => none) (h' := fun M1 => mk M1 T) (pc' := 4) (st' := fun M1 => []) rfl rfl rfl rfl rfl rfl (hsub) (fun M1 g1 => ?_)
  have hx1 := g1
  exact k1 _ hx1
set_option maxRecDepth 100000 in
set_option maxHeartbeats 4000000 in
theorem tm_compares_o {ro : xRO} {d : Nat} {M : xM} {T : Nat} {Q : Option Value → xH → Prop} {f : Nat → Int32} {L u o : Nat} {Mb : xM} {s : tpS} (hx : tpM f L u Mb o s M) (hle : s.1 ≤ L) (h60 : L ≤ 60) {b : Int32} (hb : tp_lk f L s.1 = b) (n60 : ¬ b = 60) (n61 : ¬ b = 61) (n62 : ¬ b = 62)  (k1 : ∀ M', tpM f L u Mb (o) (s) M' → Q none (mk M' T)) : Rn ro (d + 4) M_X8_compares 4 [some (.ref 64), none] [] (mk M T) Q := by
  refine R_go 1 (pc' := 5) (L' := [some (.ref 64), none]) (st' := [.ref 64]) (h' := mk M T) (fun _ => rfl) ?_
  refine R_callD (i := .invokevirtual 110) (kd := 0) (y := M_X8_look) (as := [.ref 64]) (r := []) (L0 := [some (.ref 64)]) (v := some (.int (tp_lk f L s.1))) (h' := mk M T) (pc' := 8) (st' := [.int (tp_lk f L s.1)]) rfl rfl rfl rfl rfl rfl (tm_look hx hle h60) ?_
  refine R_top (y := b) hb ?_
  refine R_go 3 (pc' := 13) (L' := [some (.ref 64), some (.int b)]) (st' := [.int (M 61 15)]) (h' := mk M T) (fun _ => rfl) ?_
  refine R_top (y := 0) (hx.2.2.2.1.2.1) ?_
  refine R_if 4 (c := b = 60) (t := 34) (f := 22) (L' := [some (.ref 64), some (.int b)]) (st' := []) (h' := mk M T) (fun _ => rfl) (fun g1 => ?_) (fun g1 => ?_)
  · exact absurd g1 (n60)
  · refine R_if 3 (c := b = 61) (t := 34) (f := 28) (L' := [some (.ref 64), some (.int b)]) (st' := []) (h' := mk M T) (fun _ => rfl) (fun g2 => ?_) (fun g2 => ?_)
    · exact absurd g2 (n61)
    · refine R_ifn 3 (c := b = 62) (t := 54) (f := 34) (L' := [some (.ref 64), some (.int b)]) (st' := []) (h' := mk M T) (fun _ => rfl) (fun g3 => ?_) (fun g3 => ?_)
      · refine R_ret 1 (pcr := 54) (v := none) (h' := mk M T) (fun _ => rfl) ?_
        exact k1 _ hx
      · exact absurd g3 (n62)
set_option maxRecDepth 100000 in
set_option maxHeartbeats 4000000 in
theorem tm_compares_t60_g {ro : xRO} {d : Nat} {M : xM} {T : Nat} {Q : Option Value → xH → Prop} {f : Nat → Int32} {L u o : Nat} {Mb : xM} {s : tpS} (hx : tpM f L u Mb o s M) (hle : s.1 ≤ L) (h60 : L ≤ 60) (hb : tp_lk f L s.1 = 60) {s1 : tpS} (hsub : Rn ro (d + 3) M_X8_sum 0 [some (.ref 64), none] [] (mk (up M 61 13 (nI (s.1 + 1))) T) (fun rr h => ∃ M1, tpM f L u Mb (o) (s1) M1 ∧ rr = none ∧ h = mk M1 T)) (hs : s1.2.1 < 60) (k1 : ∀ M', tpM f L u Mb (o) (tp_psh s1 60 0) M' → Q none (mk M' T)) : Rn ro (d + 4) M_X8_compares 4 [some (.ref 64), none] [] (mk M T) Q := by
  refine R_go 1 (pc' := 5) (L' := [some (.ref 64), none]) (st' := [.ref 64]) (h' := mk M T) (fun _ => rfl) ?_
  refine R_callD (i := .invokevirtual 110) (kd := 0) (y := M_X8_look) (as := [.ref 64]) (r := []) (L0 := [some (.ref 64)]) (v := some (.int (tp_lk f L s.1))) (h' := mk M T) (pc' := 8) (st' := [.int (tp_lk f L s.1)]) rfl rfl rfl rfl rfl rfl (tm_look hx hle h60) ?_
  refine R_top (y := 60) hb ?_
  refine R_go 3 (pc' := 13) (L' := [some (.ref 64), some (.int 60)]) (st' := [.int (M 61 15)]) (h' := mk M T) (fun _ => rfl) ?_
  refine R_top (y := 0) (hx.2.2.2.1.2.1) ?_
  refine R_go 7 (pc' := 39) (L' := [some (.ref 64), some (.int 60)]) (st' := [.int (M 61 13), .ref 64]) (h' := mk M T) (fun _ => rfl) ?_
  refine R_top (y := nI s.1) (hx.1) ?_
  refine R_go 2 (pc' := 41) (L' := [some (.ref 64), some (.int 60)]) (st' := [.int (nI s.1 + 1), .ref 64]) (h' := mk M T) (fun _ => rfl) ?_
  refine R_top (nI_add s.1 1) ?_
  refine R_go 2 (pc' := 45) (L' := [some (.ref 64), some (.int 60)]) (st' := [.ref 64]) (h' := mk (up M 61 13 (nI (s.1 + 1))) T) (fun _ => rfl) ?_
  refine R_callE (i := .invokevirtual 144) (kd := 0) (y := M_X8_sum) (as := [.ref 64]) (r := []) (L0 := [some (.ref 64), none]) (v := fun M1 => none) (h' := fun M1 => mk M1 T) (pc' := 48) (st' := fun M1 => []) rfl rfl rfl rfl rfl rfl (hsub) (fun M1 g1 => ?_)
  have hx1 := g1
  refine R_go 3 (pc' := 51) (L' := [some (.ref 64), some (.int 60)]) (st' := [.int 0, .int 60, .ref 64]) (h' := mk M1 T) (fun _ => rfl) ?_
  refine R_callD (i := .invokevirtual 118) (kd := 0) (y := M_X8_step) (as := [.ref 64, .int 60, .int 0]) (r := []) (L0 := [some (.ref 64), some (.int 60), some (.int 0)]) (v := none) (h' := mk (up (up (up M1 68 s1.2.1 60) 69 s1.2.1 0) 61 12 (nI (s1.2.1 + 1))) T) (pc' := 54) (st' := []) rfl rfl rfl rfl rfl rfl (tm_step (M := M1) (k := s1.2.1) hx1.2.1 (by omega)) ?_
  refine R_ret 1 (pcr := 54) (v := none) (h' := mk (up (up (up M1 68 s1.2.1 60) 69 s1.2.1 0) 61 12 (nI (s1.2.1 + 1))) T) (fun _ => rfl) ?_
  exact k1 _ hx1.psh
set_option maxRecDepth 100000 in
set_option maxHeartbeats 4000000 in
theorem tm_compares_t60_f {ro : xRO} {d : Nat} {M : xM} {T : Nat} {Q : Option Value → xH → Prop} {f : Nat → Int32} {L u o : Nat} {Mb : xM} {s : tpS} (hx : tpM f L u Mb o s M) (hle : s.1 ≤ L) (h60 : L ≤ 60) (hb : tp_lk f L s.1 = 60) {p : Nat} (hsub : Rn ro (d + 3) M_X8_sum 0 [some (.ref 64), none] [] (mk (up M 61 13 (nI (s.1 + 1))) T) (fun rr h => ∃ M1, tpN L Mb (p) M1 ∧ rr = none ∧ h = mk M1 T))  (k1 : ∀ M', tpN L Mb (p) M' → Q none (mk M' T)) : Rn ro (d + 4) M_X8_compares 4 [some (.ref 64), none] [] (mk M T) Q := by
  refine R_go 1 (pc' := 5) (L' := [some (.ref 64), none]) (st' := [.ref 64]) (h' := mk M T) (fun _ => rfl) ?_
  refine R_callD (i := .invokevirtual 110) (kd := 0) (y := M_X8_look) (as := [.ref 64]) (r := []) (L0 := [some (.ref 64)]) (v := some (.int (tp_lk f L s.1))) (h' := mk M T) (pc' := 8) (st' := [.int (tp_lk f L s.1)]) rfl rfl rfl rfl rfl rfl (tm_look hx hle h60) ?_
  refine R_top (y := 60) hb ?_
  refine R_go 3 (pc' := 13) (L' := [some (.ref 64), some (.int 60)]) (st' := [.int (M 61 15)]) (h' := mk M T) (fun _ => rfl) ?_
  refine R_top (y := 0) (hx.2.2.2.1.2.1) ?_
  refine R_go 7 (pc' := 39) (L' := [some (.ref 64), some (.int 60)]) (st' := [.int (M 61 13), .ref 64]) (h' := mk M T) (fun _ => rfl) ?_
  refine R_top (y := nI s.1) (hx.1) ?_
  refine R_go 2 (pc' := 41) (L' := [some (.ref 64), some (.int 60)]) (st' := [.int (nI s.1 + 1), .ref 64]) (h' := mk M T) (fun _ => rfl) ?_
  refine R_top (nI_add s.1 1) ?_
  refine R_go 2 (pc' := 45) (L' := [some (.ref 64), some (.int 60)]) (st' := [.ref 64]) (h' := mk (up M 61 13 (nI (s.1 + 1))) T) (fun _ => rfl) ?_
  refine R_callE (i := .invokevirtual 144) (kd := 0) (y := M_X8_sum) (as := [.ref 64]) (r := []) (L0 := [some (.ref 64), none]) (v := fun M1 => none) (h' := fun M1 => mk M1 T) (pc' := 48) (st' := fun M1 => []) rfl rfl rfl rfl rfl rfl (hsub) (fun M1 g1 => ?_)
  have hx1 := g1
  refine R_go 3 (pc' := 51) (L' := [some (.ref 64), some (.int 60)]) (st' := [.int 0, .int 60, .ref 64]) (h' := mk M1 T) (fun _ => rfl) ?_
  refine R_callE (i := .invokevirtual 118) (kd := 0) (y := M_X8_step) (as := [.ref 64, .int 60, .int 0]) (r := []) (L0 := [some (.ref 64), some (.int 60), some (.int 0)]) (v := fun M2 => none) (h' := fun M2 => mk M2 T) (pc' := 54) (st' := fun M2 => []) rfl rfl rfl rfl rfl rfl (tm_stepN hx1) (fun M2 g2 => ?_)
  have hx2 := g2
  refine R_ret 1 (pcr := 54) (v := none) (h' := mk M2 T) (fun _ => rfl) ?_
  exact k1 _ hx2
set_option maxRecDepth 100000 in
set_option maxHeartbeats 4000000 in
theorem tm_compares_t61_g {ro : xRO} {d : Nat} {M : xM} {T : Nat} {Q : Option Value → xH → Prop} {f : Nat → Int32} {L u o : Nat} {Mb : xM} {s : tpS} (hx : tpM f L u Mb o s M) (hle : s.1 ≤ L) (h60 : L ≤ 60) (hb : tp_lk f L s.1 = 61) {s1 : tpS} (hsub : Rn ro (d + 3) M_X8_sum 0 [some (.ref 64), none] [] (mk (up M 61 13 (nI (s.1 + 1))) T) (fun rr h => ∃ M1, tpM f L u Mb (o) (s1) M1 ∧ rr = none ∧ h = mk M1 T)) (hs : s1.2.1 < 60) (k1 : ∀ M', tpM f L u Mb (o) (tp_psh s1 61 0) M' → Q none (mk M' T)) : Rn ro (d + 4) M_X8_compares 4 [some (.ref 64), none] [] (mk M T) Q := by
  refine R_go 1 (pc' := 5) (L' := [some (.ref 64), none]) (st' := [.ref 64]) (h' := mk M T) (fun _ => rfl) ?_
  refine R_callD (i := .invokevirtual 110) (kd := 0) (y := M_X8_look) (as := [.ref 64]) (r := []) (L0 := [some (.ref 64)]) (v := some (.int (tp_lk f L s.1))) (h' := mk M T) (pc' := 8) (st' := [.int (tp_lk f L s.1)]) rfl rfl rfl rfl rfl rfl (tm_look hx hle h60) ?_
  refine R_top (y := 61) hb ?_
  refine R_go 3 (pc' := 13) (L' := [some (.ref 64), some (.int 61)]) (st' := [.int (M 61 15)]) (h' := mk M T) (fun _ => rfl) ?_
  refine R_top (y := 0) (hx.2.2.2.1.2.1) ?_
  refine R_go 10 (pc' := 39) (L' := [some (.ref 64), some (.int 61)]) (st' := [.int (M 61 13), .ref 64]) (h' := mk M T) (fun _ => rfl) ?_
  refine R_top (y := nI s.1) (hx.1) ?_
  refine R_go 2 (pc' := 41) (L' := [some (.ref 64), some (.int 61)]) (st' := [.int (nI s.1 + 1), .ref 64]) (h' := mk M T) (fun _ => rfl) ?_
  refine R_top (nI_add s.1 1) ?_
  refine R_go 2 (pc' := 45) (L' := [some (.ref 64), some (.int 61)]) (st' := [.ref 64]) (h' := mk (up M 61 13 (nI (s.1 + 1))) T) (fun _ => rfl) ?_
  refine R_callE (i := .invokevirtual 144) (kd := 0) (y := M_X8_sum) (as := [.ref 64]) (r := []) (L0 := [some (.ref 64), none]) (v := fun M1 => none) (h' := fun M1 => mk M1 T) (pc' := 48) (st' := fun M1 => []) rfl rfl rfl rfl rfl rfl (hsub) (fun M1 g1 => ?_)
  have hx1 := g1
  refine R_go 3 (pc' := 51) (L' := [some (.ref 64), some (.int 61)]) (st' := [.int 0, .int 61, .ref 64]) (h' := mk M1 T) (fun _ => rfl) ?_
  refine R_callD (i := .invokevirtual 118) (kd := 0) (y := M_X8_step) (as := [.ref 64, .int 61, .int 0]) (r := []) (L0 := [some (.ref 64), some (.int 61), some (.int 0)]) (v := none) (h' := mk (up (up (up M1 68 s1.2.1 61) 69 s1.2.1 0) 61 12 (nI (s1.2.1 + 1))) T) (pc' := 54) (st' := []) rfl rfl rfl rfl rfl rfl (tm_step (M := M1) (k := s1.2.1) hx1.2.1 (by omega)) ?_
  refine R_ret 1 (pcr := 54) (v := none) (h' := mk (up (up (up M1 68 s1.2.1 61) 69 s1.2.1 0) 61 12 (nI (s1.2.1 + 1))) T) (fun _ => rfl) ?_
  exact k1 _ hx1.psh
set_option maxRecDepth 100000 in
set_option maxHeartbeats 4000000 in
theorem tm_compares_t61_f {ro : xRO} {d : Nat} {M : xM} {T : Nat} {Q : Option Value → xH → Prop} {f : Nat → Int32} {L u o : Nat} {Mb : xM} {s : tpS} (hx : tpM f L u Mb o s M) (hle : s.1 ≤ L) (h60 : L ≤ 60) (hb : tp_lk f L s.1 = 61) {p : Nat} (hsub : Rn ro (d + 3) M_X8_sum 0 [some (.ref 64), none] [] (mk (up M 61 13 (nI (s.1 + 1))) T) (fun rr h => ∃ M1, tpN L Mb (p) M1 ∧ rr = none ∧ h = mk M1 T))  (k1 : ∀ M', tpN L Mb (p) M' → Q none (mk M' T)) : Rn ro (d + 4) M_X8_compares 4 [some (.ref 64), none] [] (mk M T) Q := by
  refine R_go 1 (pc' := 5) (L' := [some (.ref 64), none]) (st' := [.ref 64]) (h' := mk M T) (fun _ => rfl) ?_
  refine R_callD (i := .invokevirtual 110) (kd := 0) (y := M_X8_look) (as := [.ref 64]) (r := []) (L0 := [some (.ref 64)]) (v := some (.int (tp_lk f L s.1))) (h' := mk M T) (pc' := 8) (st' := [.int (tp_lk f L s.1)]) rfl rfl rfl rfl rfl rfl (tm_look hx hle h60) ?_
  refine R_top (y := 61) hb ?_
  refine R_go 3 (pc' := 13) (L' := [some (.ref 64), some (.int 61)]) (st' := [.int (M 61 15)]) (h' := mk M T) (fun _ => rfl) ?_
  refine R_top (y := 0) (hx.2.2.2.1.2.1) ?_
  refine R_go 10 (pc' := 39) (L' := [some (.ref 64), some (.int 61)]) (st' := [.int (M 61 13), .ref 64]) (h' := mk M T) (fun _ => rfl) ?_
  refine R_top (y := nI s.1) (hx.1) ?_
  refine R_go 2 (pc' := 41) (L' := [some (.ref 64), some (.int 61)]) (st' := [.int (nI s.1 + 1), .ref 64]) (h' := mk M T) (fun _ => rfl) ?_
  refine R_top (nI_add s.1 1) ?_
  refine R_go 2 (pc' := 45) (L' := [some (.ref 64), some (.int 61)]) (st' := [.ref 64]) (h' := mk (up M 61 13 (nI (s.1 + 1))) T) (fun _ => rfl) ?_
  refine R_callE (i := .invokevirtual 144) (kd := 0) (y := M_X8_sum) (as := [.ref 64]) (r := []) (L0 := [some (.ref 64), none]) (v := fun M1 => none) (h' := fun M1 => mk M1 T) (pc' := 48) (st' := fun M1 => []) rfl rfl rfl rfl rfl rfl (hsub) (fun M1 g1 => ?_)
  have hx1 := g1
  refine R_go 3 (pc' := 51) (L' := [some (.ref 64), some (.int 61)]) (st' := [.int 0, .int 61, .ref 64]) (h' := mk M1 T) (fun _ => rfl) ?_
  refine R_callE (i := .invokevirtual 118) (kd := 0) (y := M_X8_step) (as := [.ref 64, .int 61, .int 0]) (r := []) (L0 := [some (.ref 64), some (.int 61), some (.int 0)]) (v := fun M2 => none) (h' := fun M2 => mk M2 T) (pc' := 54) (st' := fun M2 => []) rfl rfl rfl rfl rfl rfl (tm_stepN hx1) (fun M2 g2 => ?_)
  have hx2 := g2
  refine R_ret 1 (pcr := 54) (v := none) (h' := mk M2 T) (fun _ => rfl) ?_
  exact k1 _ hx2
set_option maxRecDepth 100000 in
set_option maxHeartbeats 4000000 in
theorem tm_compares_t62_g {ro : xRO} {d : Nat} {M : xM} {T : Nat} {Q : Option Value → xH → Prop} {f : Nat → Int32} {L u o : Nat} {Mb : xM} {s : tpS} (hx : tpM f L u Mb o s M) (hle : s.1 ≤ L) (h60 : L ≤ 60) (hb : tp_lk f L s.1 = 62) {s1 : tpS} (hsub : Rn ro (d + 3) M_X8_sum 0 [some (.ref 64), none] [] (mk (up M 61 13 (nI (s.1 + 1))) T) (fun rr h => ∃ M1, tpM f L u Mb (o) (s1) M1 ∧ rr = none ∧ h = mk M1 T)) (hs : s1.2.1 < 60) (k1 : ∀ M', tpM f L u Mb (o) (tp_psh s1 62 0) M' → Q none (mk M' T)) : Rn ro (d + 4) M_X8_compares 4 [some (.ref 64), none] [] (mk M T) Q := by
  refine R_go 1 (pc' := 5) (L' := [some (.ref 64), none]) (st' := [.ref 64]) (h' := mk M T) (fun _ => rfl) ?_
  refine R_callD (i := .invokevirtual 110) (kd := 0) (y := M_X8_look) (as := [.ref 64]) (r := []) (L0 := [some (.ref 64)]) (v := some (.int (tp_lk f L s.1))) (h' := mk M T) (pc' := 8) (st' := [.int (tp_lk f L s.1)]) rfl rfl rfl rfl rfl rfl (tm_look hx hle h60) ?_
  refine R_top (y := 62) hb ?_
  refine R_go 3 (pc' := 13) (L' := [some (.ref 64), some (.int 62)]) (st' := [.int (M 61 15)]) (h' := mk M T) (fun _ => rfl) ?_
  refine R_top (y := 0) (hx.2.2.2.1.2.1) ?_
  refine R_go 13 (pc' := 39) (L' := [some (.ref 64), some (.int 62)]) (st' := [.int (M 61 13), .ref 64]) (h' := mk M T) (fun _ => rfl) ?_
  refine R_top (y := nI s.1) (hx.1) ?_
  refine R_go 2 (pc' := 41) (L' := [some (.ref 64), some (.int 62)]) (st' := [.int (nI s.1 + 1), .ref 64]) (h' := mk M T) (fun _ => rfl) ?_
  refine R_top (nI_add s.1 1) ?_
  refine R_go 2 (pc' := 45) (L' := [some (.ref 64), some (.int 62)]) (st' := [.ref 64]) (h' := mk (up M 61 13 (nI (s.1 + 1))) T) (fun _ => rfl) ?_
  refine R_callE (i := .invokevirtual 144) (kd := 0) (y := M_X8_sum) (as := [.ref 64]) (r := []) (L0 := [some (.ref 64), none]) (v := fun M1 => none) (h' := fun M1 => mk M1 T) (pc' := 48) (st' := fun M1 => []) rfl rfl rfl rfl rfl rfl (hsub) (fun M1 g1 => ?_)
  have hx1 := g1
  refine R_go 3 (pc' := 51) (L' := [some (.ref 64), some (.int 62)]) (st' := [.int 0, .int 62, .ref 64]) (h' := mk M1 T) (fun _ => rfl) ?_
  refine R_callD (i := .invokevirtual 118) (kd := 0) (y := M_X8_step) (as := [.ref 64, .int 62, .int 0]) (r := []) (L0 := [some (.ref 64), some (.int 62), some (.int 0)]) (v := none) (h' := mk (up (up (up M1 68 s1.2.1 62) 69 s1.2.1 0) 61 12 (nI (s1.2.1 + 1))) T) (pc' := 54) (st' := []) rfl rfl rfl rfl rfl rfl (tm_step (M := M1) (k := s1.2.1) hx1.2.1 (by omega)) ?_
  refine R_ret 1 (pcr := 54) (v := none) (h' := mk (up (up (up M1 68 s1.2.1 62) 69 s1.2.1 0) 61 12 (nI (s1.2.1 + 1))) T) (fun _ => rfl) ?_
  exact k1 _ hx1.psh
set_option maxRecDepth 100000 in
set_option maxHeartbeats 4000000 in
theorem tm_compares_t62_f {ro : xRO} {d : Nat} {M : xM} {T : Nat} {Q : Option Value → xH → Prop} {f : Nat → Int32} {L u o : Nat} {Mb : xM} {s : tpS} (hx : tpM f L u Mb o s M) (hle : s.1 ≤ L) (h60 : L ≤ 60) (hb : tp_lk f L s.1 = 62) {p : Nat} (hsub : Rn ro (d + 3) M_X8_sum 0 [some (.ref 64), none] [] (mk (up M 61 13 (nI (s.1 + 1))) T) (fun rr h => ∃ M1, tpN L Mb (p) M1 ∧ rr = none ∧ h = mk M1 T))  (k1 : ∀ M', tpN L Mb (p) M' → Q none (mk M' T)) : Rn ro (d + 4) M_X8_compares 4 [some (.ref 64), none] [] (mk M T) Q := by
  refine R_go 1 (pc' := 5) (L' := [some (.ref 64), none]) (st' := [.ref 64]) (h' := mk M T) (fun _ => rfl) ?_
  refine R_callD (i := .invokevirtual 110) (kd := 0) (y := M_X8_look) (as := [.ref 64]) (r := []) (L0 := [some (.ref 64)]) (v := some (.int (tp_lk f L s.1))) (h' := mk M T) (pc' := 8) (st' := [.int (tp_lk f L s.1)]) rfl rfl rfl rfl rfl rfl (tm_look hx hle h60) ?_
  refine R_top (y := 62) hb ?_
  refine R_go 3 (pc' := 13) (L' := [some (.ref 64), some (.int 62)]) (st' := [.int (M 61 15)]) (h' := mk M T) (fun _ => rfl) ?_
  refine R_top (y := 0) (hx.2.2.2.1.2.1) ?_
  refine R_go 13 (pc' := 39) (L' := [some (.ref 64), some (.int 62)]) (st' := [.int (M 61 13), .ref 64]) (h' := mk M T) (fun _ => rfl) ?_
  refine R_top (y := nI s.1) (hx.1) ?_
  refine R_go 2 (pc' := 41) (L' := [some (.ref 64), some (.int 62)]) (st' := [.int (nI s.1 + 1), .ref 64]) (h' := mk M T) (fun _ => rfl) ?_
  refine R_top (nI_add s.1 1) ?_
  refine R_go 2 (pc' := 45) (L' := [some (.ref 64), some (.int 62)]) (st' := [.ref 64]) (h' := mk (up M 61 13 (nI (s.1 + 1))) T) (fun _ => rfl) ?_
  refine R_callE (i := .invokevirtual 144) (kd := 0) (y := M_X8_sum) (as := [.ref 64]) (r := []) (L0 := [some (.ref 64), none]) (v := fun M1 => none) (h' := fun M1 => mk M1 T) (pc' := 48) (st' := fun M1 => []) rfl rfl rfl rfl rfl rfl (hsub) (fun M1 g1 => ?_)
  have hx1 := g1
  refine R_go 3 (pc' := 51) (L' := [some (.ref 64), some (.int 62)]) (st' := [.int 0, .int 62, .ref 64]) (h' := mk M1 T) (fun _ => rfl) ?_
  refine R_callE (i := .invokevirtual 118) (kd := 0) (y := M_X8_step) (as := [.ref 64, .int 62, .int 0]) (r := []) (L0 := [some (.ref 64), some (.int 62), some (.int 0)]) (v := fun M2 => none) (h' := fun M2 => mk M2 T) (pc' := 54) (st' := fun M2 => []) rfl rfl rfl rfl rfl rfl (tm_stepN hx1) (fun M2 g2 => ?_)
  have hx2 := g2
  refine R_ret 1 (pcr := 54) (v := none) (h' := mk M2 T) (fun _ => rfl) ?_
  exact k1 _ hx2
