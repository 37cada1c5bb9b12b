/-! OPERATION text: the reader of the class, its levels -/
set_option maxRecDepth 100000 in
set_option maxHeartbeats 4000000 in
theorem tc_lv5_0 {ro : xRO} {d : Nat} {M : xM} {T : Nat} {Q : Option Value → xH → Prop} {f : Nat → Int32} {L u : Nat} {Mb : xM} {s1 : tpS} {p op : Nat} (hsub : Rn ro (d + 3) M_X2_readPart 0 [some (.ref 48), some (.int (nI op)), none, none, none] [] (mk M 15) (fun rr h => ∃ M1, tpF Mb (p) M1 ∧ rr = some (.int 0) ∧ h = mk M1 15))  (k1 : ∀ M1, tpF Mb (p) M1 → Q (some (.int 0)) (mk M1 15)) : Rn ro (d + 4) M_X2_readLevel 0 [some (.ref 48), some (.int 5), some (.int (nI op)), none, none] [] (mk M 15) Q := by
  refine R_go 5 (pc' := 7) (L' := [some (.ref 48), some (.int 5), some (.int (nI op)), none, none]) (st' := [.int (nI op), .ref 48]) (h' := mk M 15) (fun _ => rfl) ?_
  refine R_callE (i := .invokevirtual 48) (kd := 0) (y := M_X2_readPart) (as := [.ref 48, .int (nI op)]) (r := []) (L0 := [some (.ref 48), some (.int (nI op)), none, none, none]) (v := fun M1 => some (.int 0)) (h' := fun M1 => mk M1 15) (pc' := 10) (st' := fun M1 => [.int 0]) rfl rfl rfl rfl rfl rfl (hsub) (fun M1 g1 => ?_)
  have hx1 := g1
  refine R_ret 1 (pcr := 10) (v := some (.int 0)) (h' := mk M1 15) (fun _ => rfl) ?_
  exact k1 M1 hx1
set_option maxRecDepth 100000 in
set_option maxHeartbeats 4000000 in
theorem tc_lv5_1 {ro : xRO} {d : Nat} {M : xM} {T : Nat} {Q : Option Value → xH → Prop} {f : Nat → Int32} {L u : Nat} {Mb : xM} {s1 : tpS} {p op : Nat} (hsub : Rn ro (d + 3) M_X2_readPart 0 [some (.ref 48), some (.int (nI op)), none, none, none] [] (mk M 15) (fun rr h => ∃ M1, tpX f L u Mb (s1) M1 ∧ rr = some (.int 1) ∧ h = mk M1 15))  (k1 : ∀ M1, tpX f L u Mb (s1) M1 → Q (some (.int 1)) (mk M1 15)) : Rn ro (d + 4) M_X2_readLevel 0 [some (.ref 48), some (.int 5), some (.int (nI op)), none, none] [] (mk M 15) Q := by
  refine R_go 5 (pc' := 7) (L' := [some (.ref 48), some (.int 5), some (.int (nI op)), none, none]) (st' := [.int (nI op), .ref 48]) (h' := mk M 15) (fun _ => rfl) ?_
  refine R_callE (i := .invokevirtual 48) (kd := 0) (y := M_X2_readPart) (as := [.ref 48, .int (nI op)]) (r := []) (L0 := [some (.ref 48), some (.int (nI op)), none, none, none]) (v := fun M1 => some (.int 1)) (h' := fun M1 => mk M1 15) (pc' := 10) (st' := fun M1 => [.int 1]) rfl rfl rfl rfl rfl rfl (hsub) (fun M1 g1 => ?_)
  have hx1 := g1
  refine R_ret 1 (pcr := 10) (v := some (.int 1)) (h' := mk M1 15) (fun _ => rfl) ?_
  exact k1 M1 hx1
set_option maxRecDepth 100000 in
set_option maxHeartbeats 4000000 in
theorem tc_lv_in_f {ro : xRO} {d : Nat} {M : xM} {T : Nat} {Q : Option Value → xH → Prop} {f : Nat → Int32} {L u : Nat} {Mb : xM} {p : Nat} {l op : Nat} (l4 : l ≤ 4) (o5 : op ≤ 5) (hsub : Rn ro (d + 3) M_X2_readLevel 0 [some (.ref 48), some (.int (nI (l + 1))), some (.int (nI op)), none, none] [] (mk M 15) (fun rr h => ∃ M1, tpF Mb (p) M1 ∧ rr = some (.int 0) ∧ h = mk M1 15))  (k1 : ∀ M1, tpF Mb (p) M1 → Q (some (.int 0)) (mk M1 15)) : Rn ro (d + 4) M_X2_readLevel 0 [some (.ref 48), some (.int (nI l)), some (.int (nI op)), none, none] [] (mk M 15) Q := by
  refine R_if 3 (c := (nI l) ≤ 4) (t := 11) (f := 5) (L' := [some (.ref 48), some (.int (nI l)), some (.int (nI op)), none, none]) (st' := []) (h' := mk M 15) (fun _ => rfl) (fun g1 => ?_) (fun g1 => ?_)
  · replace g1 : l ≤ 4 := (nI_leI (a := l) (b := 4) (by omega) (by omega)).mp g1
    refine R_go 4 (pc' := 15) (L' := [some (.ref 48), some (.int (nI l)), some (.int (nI op)), none, none]) (st' := [.int (nI l + 1), .ref 48]) (h' := mk M 15) (fun _ => rfl) ?_
    refine R_top (nI_add l 1) ?_
    refine R_go 1 (pc' := 16) (L' := [some (.ref 48), some (.int (nI l)), some (.int (nI op)), none, none]) (st' := [.int (nI op), .int (nI (l + 1)), .ref 48]) (h' := mk M 15) (fun _ => rfl) ?_
    refine R_callE (i := .invokevirtual 44) (kd := 0) (y := M_X2_readLevel) (as := [.ref 48, .int (nI (l + 1)), .int (nI op)]) (r := []) (L0 := [some (.ref 48), some (.int (nI (l + 1))), some (.int (nI op)), none, none]) (v := fun M1 => some (.int 0)) (h' := fun M1 => mk M1 15) (pc' := 19) (st' := fun M1 => [.int 0]) rfl rfl rfl rfl rfl rfl (hsub) (fun M1 g2 => ?_)
    have hx1 := g2
    refine R_ret 3 (pcr := 23) (v := some (.int 0)) (h' := mk M1 15) (fun _ => rfl) ?_
    exact k1 M1 hx1
  · replace g1 : ¬ l ≤ 4 := fun q => g1 ((nI_leI (a := l) (b := 4) (by omega) (by omega)).mpr q)
    omega
set_option maxRecDepth 100000 in
set_option maxHeartbeats 4000000 in
theorem tc_lv_in_g {ro : xRO} {d : Nat} {M : xM} {T : Nat} {Q : Option Value → xH → Prop} {f : Nat → Int32} {L u : Nat} {Mb : xM} {s1 : tpS} {l op : Nat} (l4 : l ≤ 4) (o5 : op ≤ 5) (hsub : Rn ro (d + 3) M_X2_readLevel 0 [some (.ref 48), some (.int (nI (l + 1))), some (.int (nI op)), none, none] [] (mk M 15) (fun rr h => ∃ M1, tpX f L u Mb (s1) M1 ∧ rr = some (.int 1) ∧ h = mk M1 15))  (k1 : ∀ M1, tpX f L u Mb (s1) M1 → Rn ro (d + 4) M_X2_readLevel 26 [some (.ref 48), some (.int (nI l)), some (.int (nI op)), some (.int 0), none] [] (mk M1 15) Q) : Rn ro (d + 4) M_X2_readLevel 0 [some (.ref 48), some (.int (nI l)), some (.int (nI op)), none, none] [] (mk M 15) Q := by
  refine R_if 3 (c := (nI l) ≤ 4) (t := 11) (f := 5) (L' := [some (.ref 48), some (.int (nI l)), some (.int (nI op)), none, none]) (st' := []) (h' := mk M 15) (fun _ => rfl) (fun g1 => ?_) (fun g1 => ?_)
  · replace g1 : l ≤ 4 := (nI_leI (a := l) (b := 4) (by omega) (by omega)).mp g1
    refine R_go 4 (pc' := 15) (L' := [some (.ref 48), some (.int (nI l)), some (.int (nI op)), none, none]) (st' := [.int (nI l + 1), .ref 48]) (h' := mk M 15) (fun _ => rfl) ?_
    refine R_top (nI_add l 1) ?_
    refine R_go 1 (pc' := 16) (L' := [some (.ref 48), some (.int (nI l)), some (.int (nI op)), none, none]) (st' := [.int (nI op), .int (nI (l + 1)), .ref 48]) (h' := mk M 15) (fun _ => rfl) ?_
    refine R_callE (i := .invokevirtual 44) (kd := 0) (y := M_X2_readLevel) (as := [.ref 48, .int (nI (l + 1)), .int (nI op)]) (r := []) (L0 := [some (.ref 48), some (.int (nI (l + 1))), some (.int (nI op)), none, none]) (v := fun M1 => some (.int 1)) (h' := fun M1 => mk M1 15) (pc' := 19) (st' := fun M1 => [.int 1]) rfl rfl rfl rfl rfl rfl (hsub) (fun M1 g2 => ?_)
    have hx1 := g2
    refine R_go 3 (pc' := 26) (L' := [some (.ref 48), some (.int (nI l)), some (.int (nI op)), some (.int 0), none]) (st' := []) (h' := mk M1 15) (fun _ => rfl) ?_
    exact k1 M1 hx1
  · replace g1 : ¬ l ≤ 4 := fun q => g1 ((nI_leI (a := l) (b := 4) (by omega) (by omega)).mpr q)
    omega
set_option maxRecDepth 100000 in
set_option maxHeartbeats 4000000 in
theorem tc_lp_60 {ro : xRO} {d : Nat} {M : xM} {T : Nat} {Q : Option Value → xH → Prop} {l op : Nat} {w : Option Value} (k1 : Q (some (.int 1)) (mk M 15)) : Rn ro (d + 4) M_X2_readLevel 26 [some (.ref 48), some (.int (nI l)), some (.int (nI op)), some (.int 60), w] [] (mk M 15) Q := by
  refine R_ret 5 (pcr := 99) (v := some (.int 1)) (h' := mk M 15) (fun _ => rfl) ?_
  exact k1
set_option maxRecDepth 100000 in
set_option maxHeartbeats 4000000 in
theorem tc_lp_o {ro : xRO} {d : Nat} {M : xM} {T : Nat} {Q : Option Value → xH → Prop} {f : Nat → Int32} {L u : Nat} {Mb : xM} {s : tpS} (hx : tpX f L u Mb s M) (hle : s.1 ≤ L) (h60 : L ≤ 60) {b : Int32} (hb : tp_lk f L s.1 = b) {l op : Nat} (l4 : l ≤ 4) (o5 : op ≤ 5) {w : Option Value} {t : Nat} (t60 : t < 60) (hv : ¬ tp_lv b = nI l) (k1 : Q (some (.int 1)) (mk M 15)) : Rn ro (d + 4) M_X2_readLevel 26 [some (.ref 48), some (.int (nI l)), some (.int (nI op)), some (.int (nI t)), w] [] (mk M 15) Q := by
  refine R_if 3 (c := 60 ≤ (nI t)) (t := 98) (f := 32) (L' := [some (.ref 48), some (.int (nI l)), some (.int (nI op)), some (.int (nI t)), w]) (st' := []) (h' := mk M 15) (fun _ => rfl) (fun g1 => ?_) (fun g1 => ?_)
  · replace g1 : 60 ≤ t := (nI_leI (a := 60) (b := t) (by omega) (by omega)).mp g1
    omega
  · replace g1 : ¬ 60 ≤ t := fun q => g1 ((nI_leI (a := 60) (b := t) (by omega) (by omega)).mpr q)
    refine R_go 1 (pc' := 33) (L' := [some (.ref 48), some (.int (nI l)), some (.int (nI op)), some (.int (nI t)), w]) (st' := [.ref 48]) (h' := mk M 15) (fun _ => rfl) ?_
    refine R_callD (i := .invokevirtual 52) (kd := 0) (y := M_X2_next) (as := [.ref 48]) (r := []) (L0 := [some (.ref 48)]) (v := some (.int (tp_lk f L s.1))) (h' := mk M 15) (pc' := 36) (st' := [.int (tp_lk f L s.1)]) rfl rfl rfl rfl rfl rfl (tc_next hx hle h60) ?_
    refine R_top (y := b) hb ?_
    refine R_go 2 (pc' := 40) (L' := [some (.ref 48), some (.int (nI l)), some (.int (nI op)), some (.int (nI t)), some (.int b)]) (st' := [.int b]) (h' := mk M 15) (fun _ => rfl) ?_
    refine R_callD (i := .invokestatic 56) (kd := 1) (y := M_X2_levelOf) (as := [.int b]) (r := []) (L0 := [some (.int b)]) (v := some (.int (tp_lv b))) (h' := mk M 15) (pc' := 43) (st' := [.int (tp_lv b)]) rfl rfl rfl rfl rfl rfl (tc_levelOf) ?_
    refine R_if 2 (c := (tp_lv b) = (nI l)) (t := 49) (f := 47) (L' := [some (.ref 48), some (.int (nI l)), some (.int (nI op)), some (.int (nI t)), some (.int b)]) (st' := []) (h' := mk M 15) (fun _ => rfl) (fun g2 => ?_) (fun g2 => ?_)
    · exact absurd g2 (hv)
    · refine R_ret 2 (pcr := 48) (v := some (.int 1)) (h' := mk M 15) (fun _ => rfl) ?_
      exact k1
set_option maxRecDepth 100000 in
set_option maxHeartbeats 4000000 in
theorem tc_lp_f {ro : xRO} {d : Nat} {M : xM} {T : Nat} {Q : Option Value → xH → Prop} {f : Nat → Int32} {L u : Nat} {Mb : xM} {s : tpS} (hx : tpX f L u Mb s M) (hle : s.1 ≤ L) (h60 : L ≤ 60) {b : Int32} (hb : tp_lk f L s.1 = b) {l op : Nat} (l4 : l ≤ 4) (o5 : op ≤ 5) {w : Option Value} {t : Nat} (t60 : t < 60) (hv : tp_lv b = nI l) {p : Nat} (hsub : Rn ro (d + 3) M_X2_readLevel 0 [some (.ref 48), some (.int (nI (l + 1))), some (.int (nI op)), none, none] [] (mk (up M 45 4 (nI (s.1 + 1))) 15) (fun rr h => ∃ M1, tpF Mb (p) M1 ∧ rr = some (.int 0) ∧ h = mk M1 15))  (k1 : ∀ M1, tpF Mb (p) M1 → Q (some (.int 0)) (mk M1 15)) : Rn ro (d + 4) M_X2_readLevel 26 [some (.ref 48), some (.int (nI l)), some (.int (nI op)), some (.int (nI t)), w] [] (mk M 15) Q := by
  refine R_if 3 (c := 60 ≤ (nI t)) (t := 98) (f := 32) (L' := [some (.ref 48), some (.int (nI l)), some (.int (nI op)), some (.int (nI t)), w]) (st' := []) (h' := mk M 15) (fun _ => rfl) (fun g1 => ?_) (fun g1 => ?_)
  · replace g1 : 60 ≤ t := (nI_leI (a := 60) (b := t) (by omega) (by omega)).mp g1
    omega
  · replace g1 : ¬ 60 ≤ t := fun q => g1 ((nI_leI (a := 60) (b := t) (by omega) (by omega)).mpr q)
    refine R_go 1 (pc' := 33) (L' := [some (.ref 48), some (.int (nI l)), some (.int (nI op)), some (.int (nI t)), w]) (st' := [.ref 48]) (h' := mk M 15) (fun _ => rfl) ?_
    refine R_callD (i := .invokevirtual 52) (kd := 0) (y := M_X2_next) (as := [.ref 48]) (r := []) (L0 := [some (.ref 48)]) (v := some (.int (tp_lk f L s.1))) (h' := mk M 15) (pc' := 36) (st' := [.int (tp_lk f L s.1)]) rfl rfl rfl rfl rfl rfl (tc_next hx hle h60) ?_
    refine R_top (y := b) hb ?_
    refine R_go 2 (pc' := 40) (L' := [some (.ref 48), some (.int (nI l)), some (.int (nI op)), some (.int (nI t)), some (.int b)]) (st' := [.int b]) (h' := mk M 15) (fun _ => rfl) ?_
    refine R_callD (i := .invokestatic 56) (kd := 1) (y := M_X2_levelOf) (as := [.int b]) (r := []) (L0 := [some (.int b)]) (v := some (.int (tp_lv b))) (h' := mk M 15) (pc' := 43) (st' := [.int (tp_lv b)]) rfl rfl rfl rfl rfl rfl (tc_levelOf) ?_
    refine R_if 2 (c := (tp_lv b) = (nI l)) (t := 49) (f := 47) (L' := [some (.ref 48), some (.int (nI l)), some (.int (nI op)), some (.int (nI t)), some (.int b)]) (st' := []) (h' := mk M 15) (fun _ => rfl) (fun g2 => ?_) (fun g2 => ?_)
    · refine R_go 3 (pc' := 54) (L' := [some (.ref 48), some (.int (nI l)), some (.int (nI op)), some (.int (nI t)), some (.int b)]) (st' := [.int (M 45 4), .ref 48]) (h' := mk M 15) (fun _ => rfl) ?_
      refine R_top (y := nI s.1) (hx.1) ?_
      refine R_go 2 (pc' := 56) (L' := [some (.ref 48), some (.int (nI l)), some (.int (nI op)), some (.int (nI t)), some (.int b)]) (st' := [.int (nI s.1 + 1), .ref 48]) (h' := mk M 15) (fun _ => rfl) ?_
      refine R_top (nI_add s.1 1) ?_
      refine R_go 5 (pc' := 63) (L' := [some (.ref 48), some (.int (nI l)), some (.int (nI op)), some (.int (nI t)), some (.int b)]) (st' := [.int (nI l + 1), .ref 48]) (h' := mk (up M 45 4 (nI (s.1 + 1))) 15) (fun _ => rfl) ?_
      refine R_top (nI_add l 1) ?_
      refine R_go 1 (pc' := 64) (L' := [some (.ref 48), some (.int (nI l)), some (.int (nI op)), some (.int (nI t)), some (.int b)]) (st' := [.int (nI op), .int (nI (l + 1)), .ref 48]) (h' := mk (up M 45 4 (nI (s.1 + 1))) 15) (fun _ => rfl) ?_
      refine R_callE (i := .invokevirtual 44) (kd := 0) (y := M_X2_readLevel) (as := [.ref 48, .int (nI (l + 1)), .int (nI op)]) (r := []) (L0 := [some (.ref 48), some (.int (nI (l + 1))), some (.int (nI op)), none, none]) (v := fun M1 => some (.int 0)) (h' := fun M1 => mk M1 15) (pc' := 67) (st' := fun M1 => [.int 0]) rfl rfl rfl rfl rfl rfl (hsub) (fun M1 g3 => ?_)
      have hx1 := g3
      refine R_ret 3 (pcr := 71) (v := some (.int 0)) (h' := mk M1 15) (fun _ => rfl) ?_
      exact k1 M1 hx1
    · exact absurd (hv) g2
set_option maxRecDepth 100000 in
set_option maxHeartbeats 4000000 in
theorem tc_lp_2 {ro : xRO} {d : Nat} {M : xM} {T : Nat} {Q : Option Value → xH → Prop} {f : Nat → Int32} {L u : Nat} {Mb : xM} {s : tpS} (hx : tpX f L u Mb s M) (hle : s.1 ≤ L) (h60 : L ≤ 60) {b : Int32} (hb : tp_lk f L s.1 = b) {l op : Nat} (l4 : l ≤ 4) (o5 : op ≤ 5) {w : Option Value} {t : Nat} (t60 : t < 60) (hv : tp_lv b = nI l) (l2 : l = 2) {s1 : tpS} (hsub : Rn ro (d + 3) M_X2_readLevel 0 [some (.ref 48), some (.int (nI (l + 1))), some (.int (nI op)), none, none] [] (mk (up M 45 4 (nI (s.1 + 1))) 15) (fun rr h => ∃ M1, tpX f L u Mb (s1) M1 ∧ rr = some (.int 1) ∧ h = mk M1 15)) (hs : s1.2.1 < 60) (k1 : ∀ M1, tpX f L u Mb (s1) M1 → Q (some (.int 1)) (mk (up (up M1 47 s1.2.1 (20000 + b)) 46 2 (nI (s1.2.1 + 1))) 15)) : Rn ro (d + 4) M_X2_readLevel 26 [some (.ref 48), some (.int (nI l)), some (.int (nI op)), some (.int (nI t)), w] [] (mk M 15) Q := by
  refine R_if 3 (c := 60 ≤ (nI t)) (t := 98) (f := 32) (L' := [some (.ref 48), some (.int (nI l)), some (.int (nI op)), some (.int (nI t)), w]) (st' := []) (h' := mk M 15) (fun _ => rfl) (fun g1 => ?_) (fun g1 => ?_)
  · replace g1 : 60 ≤ t := (nI_leI (a := 60) (b := t) (by omega) (by omega)).mp g1
    omega
  · replace g1 : ¬ 60 ≤ t := fun q => g1 ((nI_leI (a := 60) (b := t) (by omega) (by omega)).mpr q)
    refine R_go 1 (pc' := 33) (L' := [some (.ref 48), some (.int (nI l)), some (.int (nI op)), some (.int (nI t)), w]) (st' := [.ref 48]) (h' := mk M 15) (fun _ => rfl) ?_
    refine R_callD (i := .invokevirtual 52) (kd := 0) (y := M_X2_next) (as := [.ref 48]) (r := []) (L0 := [some (.ref 48)]) (v := some (.int (tp_lk f L s.1))) (h' := mk M 15) (pc' := 36) (st' := [.int (tp_lk f L s.1)]) rfl rfl rfl rfl rfl rfl (tc_next hx hle h60) ?_
    refine R_top (y := b) hb ?_
    refine R_go 2 (pc' := 40) (L' := [some (.ref 48), some (.int (nI l)), some (.int (nI op)), some (.int (nI t)), some (.int b)]) (st' := [.int b]) (h' := mk M 15) (fun _ => rfl) ?_
    refine R_callD (i := .invokestatic 56) (kd := 1) (y := M_X2_levelOf) (as := [.int b]) (r := []) (L0 := [some (.int b)]) (v := some (.int (tp_lv b))) (h' := mk M 15) (pc' := 43) (st' := [.int (tp_lv b)]) rfl rfl rfl rfl rfl rfl (tc_levelOf) ?_
    refine R_if 2 (c := (tp_lv b) = (nI l)) (t := 49) (f := 47) (L' := [some (.ref 48), some (.int (nI l)), some (.int (nI op)), some (.int (nI t)), some (.int b)]) (st' := []) (h' := mk M 15) (fun _ => rfl) (fun g2 => ?_) (fun g2 => ?_)
    · refine R_go 3 (pc' := 54) (L' := [some (.ref 48), some (.int (nI l)), some (.int (nI op)), some (.int (nI t)), some (.int b)]) (st' := [.int (M 45 4), .ref 48]) (h' := mk M 15) (fun _ => rfl) ?_
      refine R_top (y := nI s.1) (hx.1) ?_
      refine R_go 2 (pc' := 56) (L' := [some (.ref 48), some (.int (nI l)), some (.int (nI op)), some (.int (nI t)), some (.int b)]) (st' := [.int (nI s.1 + 1), .ref 48]) (h' := mk M 15) (fun _ => rfl) ?_
      refine R_top (nI_add s.1 1) ?_
      refine R_go 5 (pc' := 63) (L' := [some (.ref 48), some (.int (nI l)), some (.int (nI op)), some (.int (nI t)), some (.int b)]) (st' := [.int (nI l + 1), .ref 48]) (h' := mk (up M 45 4 (nI (s.1 + 1))) 15) (fun _ => rfl) ?_
      refine R_top (nI_add l 1) ?_
      refine R_go 1 (pc' := 64) (L' := [some (.ref 48), some (.int (nI l)), some (.int (nI op)), some (.int (nI t)), some (.int b)]) (st' := [.int (nI op), .int (nI (l + 1)), .ref 48]) (h' := mk (up M 45 4 (nI (s.1 + 1))) 15) (fun _ => rfl) ?_
      refine R_callE (i := .invokevirtual 44) (kd := 0) (y := M_X2_readLevel) (as := [.ref 48, .int (nI (l + 1)), .int (nI op)]) (r := []) (L0 := [some (.ref 48), some (.int (nI (l + 1))), some (.int (nI op)), none, none]) (v := fun M1 => some (.int 1)) (h' := fun M1 => mk M1 15) (pc' := 67) (st' := fun M1 => [.int 1]) rfl rfl rfl rfl rfl rfl (hsub) (fun M1 g3 => ?_)
      have hx1 := g3
      refine R_go 6 (pc' := 82) (L' := [some (.ref 48), some (.int (nI l)), some (.int (nI op)), some (.int (nI t)), some (.int b)]) (st' := [.int (20000 + b), .ref 49]) (h' := mk M1 15) (fun _ => rfl) ?_
      refine R_callD (i := .invokevirtual 60) (kd := 0) (y := M_X6_addStep) (as := [.ref 49, .int (20000 + b)]) (r := []) (L0 := [some (.ref 49), some (.int (20000 + b))]) (v := none) (h' := mk (up (up M1 47 s1.2.1 (20000 + b)) 46 2 (nI (s1.2.1 + 1))) 15) (pc' := 85) (st' := []) rfl rfl rfl rfl rfl rfl (tc_add (M := M1) (k := s1.2.1) hx1.2.1 (by omega)) ?_
      refine R_ifn 3 (c := (nI l) = 2) (t := 92) (f := 90) (L' := [some (.ref 48), some (.int (nI l)), some (.int (nI op)), some (.int (nI t)), some (.int b)]) (st' := []) (h' := mk (up (up M1 47 s1.2.1 (20000 + b)) 46 2 (nI (s1.2.1 + 1))) 15) (fun _ => rfl) (fun g4 => ?_) (fun g4 => ?_)
      · replace g4 : ¬ l = 2 := fun q => g4 ((nI_eq (a := l) (b := 2) (by omega) (by omega)).mpr q)
        omega
      · replace g4 : l = 2 := (nI_eq (a := l) (b := 2) (by omega) (by omega)).mp g4
        refine R_ret 2 (pcr := 91) (v := some (.int 1)) (h' := mk (up (up M1 47 s1.2.1 (20000 + b)) 46 2 (nI (s1.2.1 + 1))) 15) (fun _ => rfl) ?_
        exact k1 M1 hx1
    · exact absurd (hv) g2
set_option maxRecDepth 100000 in
set_option maxHeartbeats 4000000 in
theorem tc_lp_g {ro : xRO} {d : Nat} {M : xM} {T : Nat} {Q : Option Value → xH → Prop} {f : Nat → Int32} {L u : Nat} {Mb : xM} {s : tpS} (hx : tpX f L u Mb s M) (hle : s.1 ≤ L) (h60 : L ≤ 60) {b : Int32} (hb : tp_lk f L s.1 = b) {l op : Nat} (l4 : l ≤ 4) (o5 : op ≤ 5) {w : Option Value} {t : Nat} (t60 : t < 60) (hv : tp_lv b = nI l) (l2 : ¬ l = 2) {s1 : tpS} (hsub : Rn ro (d + 3) M_X2_readLevel 0 [some (.ref 48), some (.int (nI (l + 1))), some (.int (nI op)), none, none] [] (mk (up M 45 4 (nI (s.1 + 1))) 15) (fun rr h => ∃ M1, tpX f L u Mb (s1) M1 ∧ rr = some (.int 1) ∧ h = mk M1 15)) (hs : s1.2.1 < 60) (k1 : ∀ M1, tpX f L u Mb (s1) M1 → Rn ro (d + 4) M_X2_readLevel 26 [some (.ref 48), some (.int (nI l)), some (.int (nI op)), some (.int (nI (t + 1))), some (.int b)] [] (mk (up (up M1 47 s1.2.1 (20000 + b)) 46 2 (nI (s1.2.1 + 1))) 15) Q) : Rn ro (d + 4) M_X2_readLevel 26 [some (.ref 48), some (.int (nI l)), some (.int (nI op)), some (.int (nI t)), w] [] (mk M 15) Q := by
  refine R_if 3 (c := 60 ≤ (nI t)) (t := 98) (f := 32) (L' := [some (.ref 48), some (.int (nI l)), some (.int (nI op)), some (.int (nI t)), w]) (st' := []) (h' := mk M 15) (fun _ => rfl) (fun g1 => ?_) (fun g1 => ?_)
  · replace g1 : 60 ≤ t := (nI_leI (a := 60) (b := t) (by omega) (by omega)).mp g1
    omega
  · replace g1 : ¬ 60 ≤ t := fun q => g1 ((nI_leI (a := 60) (b := t) (by omega) (by omega)).mpr q)
    refine R_go 1 (pc' := 33) (L' := [some (.ref 48), some (.int (nI l)), some (.int (nI op)), some (.int (nI t)), w]) (st' := [.ref 48]) (h' := mk M 15) (fun _ => rfl) ?_
    refine R_callD (i := .invokevirtual 52) (kd := 0) (y := M_X2_next) (as := [.ref 48]) (r := []) (L0 := [some (.ref 48)]) (v := some (.int (tp_lk f L s.1))) (h' := mk M 15) (pc' := 36) (st' := [.int (tp_lk f L s.1)]) rfl rfl rfl rfl rfl rfl (tc_next hx hle h60) ?_
    refine R_top (y := b) hb ?_
    refine R_go 2 (pc' := 40) (L' := [some (.ref 48), some (.int (nI l)), some (.int (nI op)), some (.int (nI t)), some (.int b)]) (st' := [.int b]) (h' := mk M 15) (fun _ => rfl) ?_
    refine R_callD (i := .invokestatic 56) (kd := 1) (y := M_X2_levelOf) (as := [.int b]) (r := []) (L0 := [some (.int b)]) (v := some (.int (tp_lv b))) (h' := mk M 15) (pc' := 43) (st' := [.int (tp_lv b)]) rfl rfl rfl rfl rfl rfl (tc_levelOf) ?_
    refine R_if 2 (c := (tp_lv b) = (nI l)) (t := 49) (f := 47) (L' := [some (.ref 48), some (.int (nI l)), some (.int (nI op)), some (.int (nI t)), some (.int b)]) (st' := []) (h' := mk M 15) (fun _ => rfl) (fun g2 => ?_) (fun g2 => ?_)
    · refine R_go 3 (pc' := 54) (L' := [some (.ref 48), some (.int (nI l)), some (.int (nI op)), some (.int (nI t)), some (.int b)]) (st' := [.int (M 45 4), .ref 48]) (h' := mk M 15) (fun _ => rfl) ?_
      refine R_top (y := nI s.1) (hx.1) ?_
      refine R_go 2 (pc' := 56) (L' := [some (.ref 48), some (.int (nI l)), some (.int (nI op)), some (.int (nI t)), some (.int b)]) (st' := [.int (nI s.1 + 1), .ref 48]) (h' := mk M 15) (fun _ => rfl) ?_
      refine R_top (nI_add s.1 1) ?_
      refine R_go 5 (pc' := 63) (L' := [some (.ref 48), some (.int (nI l)), some (.int (nI op)), some (.int (nI t)), some (.int b)]) (st' := [.int (nI l + 1), .ref 48]) (h' := mk (up M 45 4 (nI (s.1 + 1))) 15) (fun _ => rfl) ?_
      refine R_top (nI_add l 1) ?_
      refine R_go 1 (pc' := 64) (L' := [some (.ref 48), some (.int (nI l)), some (.int (nI op)), some (.int (nI t)), some (.int b)]) (st' := [.int (nI op), .int (nI (l + 1)), .ref 48]) (h' := mk (up M 45 4 (nI (s.1 + 1))) 15) (fun _ => rfl) ?_
      refine R_callE (i := .invokevirtual 44) (kd := 0) (y := M_X2_readLevel) (as := [.ref 48, .int (nI (l + 1)), .int (nI op)]) (r := []) (L0 := [some (.ref 48), some (.int (nI (l + 1))), some (.int (nI op)), none, none]) (v := fun M1 => some (.int 1)) (h' := fun M1 => mk M1 15) (pc' := 67) (st' := fun M1 => [.int 1]) rfl rfl rfl rfl rfl rfl (hsub) (fun M1 g3 => ?_)
      have hx1 := g3
      refine R_go 6 (pc' := 82) (L' := [some (.ref 48), some (.int (nI l)), some (.int (nI op)), some (.int (nI t)), some (.int b)]) (st' := [.int (20000 + b), .ref 49]) (h' := mk M1 15) (fun _ => rfl) ?_
      refine R_callD (i := .invokevirtual 60) (kd := 0) (y := M_X6_addStep) (as := [.ref 49, .int (20000 + b)]) (r := []) (L0 := [some (.ref 49), some (.int (20000 + b))]) (v := none) (h' := mk (up (up M1 47 s1.2.1 (20000 + b)) 46 2 (nI (s1.2.1 + 1))) 15) (pc' := 85) (st' := []) rfl rfl rfl rfl rfl rfl (tc_add (M := M1) (k := s1.2.1) hx1.2.1 (by omega)) ?_
      refine R_ifn 3 (c := (nI l) = 2) (t := 92) (f := 90) (L' := [some (.ref 48), some (.int (nI l)), some (.int (nI op)), some (.int (nI t)), some (.int b)]) (st' := []) (h' := mk (up (up M1 47 s1.2.1 (20000 + b)) 46 2 (nI (s1.2.1 + 1))) 15) (fun _ => rfl) (fun g4 => ?_) (fun g4 => ?_)
      · replace g4 : ¬ l = 2 := fun q => g4 ((nI_eq (a := l) (b := 2) (by omega) (by omega)).mpr q)
        refine R_go 1 (pc' := 95) (L' := [some (.ref 48), some (.int (nI l)), some (.int (nI op)), some (.int ((nI t) + 1)), some (.int b)]) (st' := []) (h' := mk (up (up M1 47 s1.2.1 (20000 + b)) 46 2 (nI (s1.2.1 + 1))) 15) (fun _ => rfl) ?_
        rw [nI_1]
        refine R_go 1 (pc' := 26) (L' := [some (.ref 48), some (.int (nI l)), some (.int (nI op)), some (.int (nI (t + 1))), some (.int b)]) (st' := []) (h' := mk (up (up M1 47 s1.2.1 (20000 + b)) 46 2 (nI (s1.2.1 + 1))) 15) (fun _ => rfl) ?_
        exact k1 M1 hx1
      · replace g4 : l = 2 := (nI_eq (a := l) (b := 2) (by omega) (by omega)).mp g4
        omega
    · exact absurd (hv) g2
theorem tpQ_l {f : Nat → Int32} {L u : Nat} {Mb : xM} {r : tpT} {p : Nat} (e : r = .inl p) {M : xM} (h : tpF Mb p M) : tpQ f L u Mb r (some (.int 0)) (mk M 15) := by
  subst e
  exact ⟨M, h, rfl, rfl⟩
theorem tpQ_r {f : Nat → Int32} {L u : Nat} {Mb : xM} {r : tpT} {s : tpS} (e : r = .inr s) {M : xM} (h : tpX f L u Mb s M) : tpQ f L u Mb r (some (.int 1)) (mk M 15) := by
  subst e
  exact ⟨M, h, rfl, rfl⟩
theorem tpQ_al {f : Nat → Int32} {L u : Nat} {Mb : xM} {r : tpT} {p : Nat} (e : r = .inl p) {ro : xRO} {d : Nat} {md : MD} {l : xL} {h : xH} (w : Rn ro d md 0 l [] h (tpQ f L u Mb r)) : Rn ro d md 0 l [] h (fun rr h => ∃ M1, tpF Mb p M1 ∧ rr = some (.int 0) ∧ h = mk M1 15) := by
  subst e
  exact w
theorem tpQ_ar {f : Nat → Int32} {L u : Nat} {Mb : xM} {r : tpT} {s : tpS} (e : r = .inr s) {ro : xRO} {d : Nat} {md : MD} {l : xL} {h : xH} (w : Rn ro d md 0 l [] h (tpQ f L u Mb r)) : Rn ro d md 0 l [] h (fun rr h => ∃ M1, tpX f L u Mb s M1 ∧ rr = some (.int 1) ∧ h = mk M1 15) := by
  subst e
  exact w
theorem tc_loop {ro : xRO} {d : Nat} {f : Nat → Int32} {L u : Nat} {Mb : xM} (h60 : L ≤ 60) {l op : Nat} (l4 : l ≤ 4) (o5 : op ≤ 5) {sub : tpS → tpT} (hok : ∀ s dep, tpO L dep s → tpR L dep s (sub s)) (hsub : ∀ s dep M, tpX f L u Mb s M → tpO L dep s → Rn ro (d + 3) M_X2_readLevel 0 [some (.ref 48), some (.int (nI (l + 1))), some (.int (nI op)), none, none] [] (mk M 15) (tpQ f L u Mb (sub s))) : ∀ (n t : Nat) (w : Option Value) (s : tpS) (dep : Nat) (M : xM), t + n = 60 → tpX f L u Mb s M → tpO L (dep + 1) s → Rn ro (d + 4) M_X2_readLevel 26 [some (.ref 48), some (.int (nI l)), some (.int (nI op)), some (.int (nI t)), w] [] (mk M 15) (tpQ f L u Mb (tp_lp f L l sub n s)) := by
  intro n
  induction n with
  | zero =>
    intro t w s dep M ht hx ho
    obtain rfl : t = 60 := by omega
    exact tc_lp_60 (T := 15) (tpQ_r rfl hx)
  | succ n ih =>
    intro t w s dep M ht hx ho
    have hle := ho.1
    have h2 := ho.2.1
    by_cases hv : tp_lv (tp_lk f L s.1) = nI l
    · have hlt := tp_lv_lt l4 hv
      have oa : tpO L (dep + 1) (tp_adv s) := tpO_at ho (by omega) hlt
      have k0 := hok (tp_adv s) (dep + 1) oa
      have w0 := hsub (tp_adv s) (dep + 1) _ hx.adv oa
      cases e : sub (tp_adv s) with
      | inl p =>
        have er : tp_lp f L l sub (n + 1) s = .inl p := by
          unfold tp_lp
          rw [if_pos hv, e]
        exact tc_lp_f (T := 15) hx hle h60 rfl l4 o5 (by omega) hv (tpQ_al e w0) (fun M1 hx1 => tpQ_l er hx1)
      | inr s1 =>
        rw [e] at k0
        have b1 := tpR_sg l4 hv h2 k0
        have hs : s1.2.1 + 1 ≤ s1.1 := b1.2.1
        have hs2 := b1.1
        have hs3 : s1.1 ≤ L := hs2
        have eg := encS_g (w := 0) (tp_sg l4 hv)
        by_cases l2 : l = 2
        · have er : tp_lp f L l sub (n + 1) s = .inr (tp_psh s1 (tp_lk f L s.1) 0) := by
            unfold tp_lp
            rw [if_pos hv, e]
            exact if_pos l2
          exact tc_lp_2 (T := 15) hx hle h60 rfl l4 o5 (by omega) hv l2 (tpQ_ar e w0) (by omega) (fun M1 hx1 => tpQ_r er (hx1.psh eg.symm))
        · have er : tp_lp f L l sub (n + 1) s = tp_lp f L l sub n (tp_psh s1 (tp_lk f L s.1) 0) := by
            conv => lhs; unfold tp_lp
            rw [if_pos hv, e]
            exact if_neg l2
          rw [er]
          exact tc_lp_g (T := 15) hx hle h60 rfl l4 o5 (by omega) hv l2 (tpQ_ar e w0) (by omega) (fun M1 hx1 => ih (t + 1) _ _ dep _ (by omega) (hx1.psh eg.symm) b1)
    · have er : tp_lp f L l sub (n + 1) s = .inr s := by
        unfold tp_lp
        rw [if_neg hv]
      exact tc_lp_o (T := 15) hx hle h60 rfl l4 o5 (by omega) hv (tpQ_r er hx)
theorem tc_lev {ro : xRO} {d : Nat} {f : Nat → Int32} {L u : Nat} {Mb : xM} (h60 : L ≤ 60) {op : Nat} (o5 : op ≤ 5) {one : tpS → tpT} (hok : ∀ s dep, tpO L dep s → tpR L dep s (one s)) (hone : ∀ s dep M, tpX f L u Mb s M → tpO L dep s → Rn ro (d + 3) M_X2_readPart 0 [some (.ref 48), some (.int (nI op)), none, none, none] [] (mk M 15) (tpQ f L u Mb (one s))) : ∀ (j l : Nat) (s : tpS) (dep : Nat) (M : xM), l + j = 5 → tpX f L u Mb s M → tpO L dep s → Rn ro (d + j + 4) M_X2_readLevel 0 [some (.ref 48), some (.int (nI l)), some (.int (nI op)), none, none] [] (mk M 15) (tpQ f L u Mb (tp_lev f L one j s)) := by
  intro j
  induction j with
  | zero =>
    intro l s dep M hl hx ho
    obtain rfl : l = 5 := by omega
    have w0 := hone s dep M hx ho
    show Rn ro (d + 4) _ 0 _ [] _ (tpQ f L u Mb (one s))
    cases e : one s with
    | inl p => exact tc_lv5_0 (f := f) (L := L) (u := u) (s1 := s) (T := 15) (tpQ_al e w0) (fun M1 hx1 => tpQ_l rfl hx1)
    | inr s1 => exact tc_lv5_1 (p := 0) (T := 15) (tpQ_ar e w0) (fun M1 hx1 => tpQ_r rfl hx1)
  | succ j ih =>
    intro l s dep M hl hx ho
    have hok2 := tp_lev_ok (f := f) hok j
    have w0 := ih (l + 1) s dep M (by omega) hx ho
    have k0 := hok2 s dep ho
    rw [show d + j + 4 = d + j + 1 + 3 by omega] at w0
    rw [show d + (j + 1) + 4 = d + j + 1 + 4 by omega]
    cases e : tp_lev f L one j s with
    | inl p =>
      have er : tp_lev f L one (j + 1) s = .inl p := by
        conv => lhs; unfold tp_lev
        rw [e]
      exact tc_lv_in_f (f := f) (L := L) (u := u) (T := 15) (by omega) o5 (tpQ_al e w0) (fun M1 hx1 => tpQ_l er hx1)
    | inr s1 =>
      rw [e] at k0
      have er : tp_lev f L one (j + 1) s = tp_lp f L l (fun z => tp_lev f L one j z) 60 s1 := by
        conv => lhs; unfold tp_lev
        rw [e, show 4 - j = l by omega]
      rw [er]
      exact tc_lv_in_g (T := 15) (by omega) o5 (tpQ_ar e w0) (fun M1 hx1 => tc_loop h60 (by omega) o5 hok2 (fun s dep M hx ho => by
        have w := ih (l + 1) s dep M (by omega) hx ho
        rw [show d + j + 4 = d + j + 1 + 3 by omega] at w
        exact w) 60 0 none s1 dep M1 (by omega) hx1 k0.1)
theorem tc_one {ro : xRO} {f : Nat → Int32} {L u : Nat} {Mb : xM} (h60 : L ≤ 60) (u1 : u ≤ 1) : ∀ (O d op : Nat) (s : tpS) (dep : Nat) (M : xM), op + O = 5 → tpX f L u Mb s M → tpO L dep s → Rn ro (d + 8 * O + 4) M_X2_readPart 0 [some (.ref 48), some (.int (nI op)), none, none, none] [] (mk M 15) (tpQ f L u Mb (tp_one f L u O s)) := by
  intro O
  have base : ∀ {D d op : Nat} {s : tpS} {dep : Nat} {M : xM} {k : tpT}, D = d + 4 → op ≤ 5 → tpX f L u Mb s M → tpO L dep s → (¬ (48 ≤ tp_lk f L s.1 ∧ tp_lk f L s.1 ≤ 57) → tp_nm u (tp_lk f L s.1) < 0 → Rn ro D M_X2_readPart 0 [some (.ref 48), some (.int (nI op)), none, none, none] [] (mk M 15) (tpQ f L u Mb k)) → Rn ro D M_X2_readPart 0 [some (.ref 48), some (.int (nI op)), none, none, none] [] (mk M 15) (tpQ f L u Mb (tp_at f L u s k)) := by
    intro D d op s dep M k hD o5 hx ho hk
    subst hD
    have hle := ho.1
    have h2 := ho.2.1
    unfold tp_at
    by_cases hd : 48 ≤ tp_lk f L s.1 ∧ tp_lk f L s.1 ≤ 57
    · rw [if_pos hd]
      have hlt := tp_dg_lt hd
      exact tc_pt_num (T := 15) hx hle h60 rfl hd (by omega) (fun M1 hx1 => tpQ_r rfl hx1)
    · rw [if_neg hd]
      by_cases hn : 0 ≤ tp_nm u (tp_lk f L s.1)
      · rw [if_pos hn]
        have hlt := tp_nm_lt hn
        exact tc_pt_nam (T := 15) hx hle h60 rfl hd u1 o5 hn (by omega) (tpQ_r rfl (hx.adv.psh encS_2.symm))
      · rw [if_neg hn]
        exact hk hd (by grind)
  induction O with
  | zero =>
    intro d op s dep M hop hx ho
    obtain rfl : op = 5 := by omega
    have h2 := ho.2.1
    have h1 := ho.1
    rw [tp_one_0]
    exact base (d := d) (by omega) (by omega) hx ho (fun hd hn => tc_pt_5 (d := d) (T := 15) hx ho.1 h60 rfl hd u1 hn (tpQ_l rfl (hx.flt (by omega))))
  | succ O ih =>
    intro d op s dep M hop hx ho
    have h1 := ho.1
    have h2 := ho.2.1
    rw [tp_one_s]
    refine base (d := d + 8 * (O + 1)) rfl (by omega) hx ho (fun hd hn => ?_)
    by_cases q33 : tp_lk f L s.1 = 33
    · rw [if_pos q33]
      have hlt : s.1 < L := tp_lk_lt (fun q => by rw [q] at q33; exact absurd q33 (by decide))
      have oa : tpO L dep (tp_adv s) := tpO_at ho (by omega) hlt
      have w0 := ih (d + 7) (op + 1) (tp_adv s) dep _ (by omega) hx.adv oa
      have k0 := tp_one_ok (f := f) (u := u) O (tp_adv s) dep oa
      rw [show d + 7 + 8 * O + 4 = d + 8 * (O + 1) + 3 by omega] at w0
      cases e : tp_one f L u O (tp_adv s) with
      | inl p => exact tc_pt_not_f (T := 15) hx h1 h60 q33 u1 (by omega) (tpQ_al e w0) (fun M1 hx1 => tpQ_l rfl hx1)
      | inr s1 =>
        rw [e] at k0
        obtain ⟨a1, a2, a3⟩ := k0
        have a3' : s1.2.1 + (s.1 + 1) ≤ s1.1 + s.2.1 := a3
        have a4 := a1.1
        exact tc_pt_not_g (T := 15) hx h1 h60 q33 u1 (by omega) (tpQ_ar e w0) (by omega) (fun M1 hx1 => tpQ_r rfl (hx1.psh encS_3.symm))
    · rw [if_neg q33]
      by_cases q40 : tp_lk f L s.1 = 40
      · rw [if_pos q40]
        have hlt : s.1 < L := tp_lk_lt (fun q => by rw [q] at q40; exact absurd q40 (by decide))
        have oa : tpO L dep (tp_adv s) := tpO_at ho (by omega) hlt
        have w0 := tc_lev (ro := ro) (d := d + 8 * O + 2) h60 (show op + 1 ≤ 5 by omega) (tp_one_ok (f := f) (u := u) O) (fun s dep M hx ho => by
          have w := ih (d + 1) (op + 1) s dep M (by omega) hx ho
          rw [show d + 1 + 8 * O + 4 = d + 8 * O + 2 + 3 by omega] at w
          exact w) 5 0 (tp_adv s) dep _ (by omega) hx.adv oa
        have k0 := tp_lev_ok (f := f) (tp_one_ok (f := f) (u := u) O) 5 (tp_adv s) dep oa
        rw [show d + 8 * O + 2 + 5 + 4 = d + 8 * (O + 1) + 3 by omega] at w0
        cases e : tp_lev f L (tp_one f L u O) 5 (tp_adv s) with
        | inl p => exact tc_pt_par_f (T := 15) hx h1 h60 q40 u1 (by omega) (tpQ_al e w0) (fun M1 hx1 => tpQ_l rfl hx1)
        | inr s1 =>
          rw [e] at k0
          obtain ⟨a1, a2, a3⟩ := k0
          have a3' : s1.2.1 + (s.1 + 1) ≤ s1.1 + s.2.1 := a3
          have a4 := a1.1
          unfold tp_par
          dsimp only
          by_cases q41 : tp_lk f L s1.1 = 41
          · rw [if_pos q41]
            exact tc_pt_par_g (T := 15) hx h1 h60 q40 u1 (by omega) (tpQ_ar e w0) a4 q41 (fun M1 hx1 => tpQ_r rfl hx1.adv)
          · rw [if_neg q41]
            exact tc_pt_par_n (T := 15) hx h1 h60 q40 u1 (by omega) (tpQ_ar e w0) a4 q41 (fun M1 hx1 => tpQ_l rfl (hx1.flt (by omega)))
      · rw [if_neg q40]
        exact tc_pt_no (T := 15) hx h1 h60 rfl hd u1 (by omega) hn q33 q40 (tpQ_l rfl (hx.flt (by omega)))
