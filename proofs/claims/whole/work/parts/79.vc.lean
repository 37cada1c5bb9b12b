/-! OPERATION text: the reader of the class, its parts -/
set_option maxRecDepth 100000 in
set_option maxHeartbeats 4000000 in
theorem tc_num_t {ro : xRO} {d : Nat} {M : xM} {T : Nat} {Q : Option Value → xH → Prop} {f : Nat → Int32} {L u : Nat} {Mb : xM} {s : tpS} (hx : tpX f L u Mb s M) (hle : s.1 ≤ L) (h60 : L ≤ 60) {b : Int32} (hb : tp_lk f L s.1 = b) (hd : 48 ≤ b ∧ b ≤ 57) {n : Nat} {v : Int32} (n4 : n < 4) (k1 : Rn ro (d + 2) M_X2_readNumber 4 [some (.ref 48), some (.int (v * 10 + b - 48)), some (.int (nI (n + 1)))] [] (mk (up M 45 4 (nI (s.1 + 1))) 15) Q) : Rn ro (d + 2) M_X2_readNumber 4 [some (.ref 48), some (.int v), some (.int (nI n))] [] (mk M 15) Q := by
  refine R_if 3 (c := 4 ≤ (nI n)) (t := 48) (f := 9) (L' := [some (.ref 48), some (.int v), some (.int (nI n))]) (st' := []) (h' := mk M 15) (fun _ => rfl) (fun g1 => ?_) (fun g1 => ?_)
  · replace g1 : 4 ≤ n := (nI_leI (a := 4) (b := n) (by omega) (by omega)).mp g1
    omega
  · replace g1 : ¬ 4 ≤ n := fun q => g1 ((nI_leI (a := 4) (b := n) (by omega) (by omega)).mpr q)
    refine R_go 1 (pc' := 10) (L' := [some (.ref 48), some (.int v), some (.int (nI n))]) (st' := [.ref 48]) (h' := mk M 15) (fun _ => rfl) ?_
    refine R_callD (i := .invokevirtual 52) (kd := 0) (y := M_X2_next) (as := [.ref 48]) (r := []) (L0 := [some (.ref 48)]) (v := some (.int (tp_lk f L s.1))) (h' := mk M 15) (pc' := 13) (st' := [.int (tp_lk f L s.1)]) rfl rfl rfl rfl rfl rfl (tc_next hx hle h60) ?_
    refine R_top (y := b) hb ?_
    refine R_call2 (i := .invokestatic 64) (kd := 1) (y := M_X2_isDigit) (as := [.int b]) (r := []) (L0 := [some (.int b)]) (v1 := some (.int 1)) (v2 := some (.int 0)) (h1' := mk M 15) (h2' := mk M 15) (pc' := 16) (st1 := [.int 1]) (st2 := [.int 0]) rfl rfl rfl rfl rfl rfl (tc_isDigit) (fun g2 => ?_) (fun g2 => ?_)
    · refine R_go 5 (pc' := 24) (L' := [some (.ref 48), some (.int v), some (.int (nI n))]) (st' := [.ref 48, .int (v * 10)]) (h' := mk M 15) (fun _ => rfl) ?_
      refine R_callD (i := .invokevirtual 52) (kd := 0) (y := M_X2_next) (as := [.ref 48]) (r := [.int (v * 10)]) (L0 := [some (.ref 48)]) (v := some (.int (tp_lk f L s.1))) (h' := mk M 15) (pc' := 27) (st' := [.int (tp_lk f L s.1), .int (v * 10)]) rfl rfl rfl rfl rfl rfl (tc_next hx hle h60) ?_
      refine R_top (y := b) hb ?_
      refine R_go 7 (pc' := 37) (L' := [some (.ref 48), some (.int (((v * 10) + b) - 48)), some (.int (nI n))]) (st' := [.int (M 45 4), .ref 48]) (h' := mk M 15) (fun _ => rfl) ?_
      refine R_top (y := nI s.1) (hx.1) ?_
      refine R_go 2 (pc' := 39) (L' := [some (.ref 48), some (.int (((v * 10) + b) - 48)), some (.int (nI n))]) (st' := [.int (nI s.1 + 1), .ref 48]) (h' := mk M 15) (fun _ => rfl) ?_
      refine R_top (nI_add s.1 1) ?_
      refine R_go 2 (pc' := 45) (L' := [some (.ref 48), some (.int (((v * 10) + b) - 48)), some (.int ((nI n) + 1))]) (st' := []) (h' := mk (up M 45 4 (nI (s.1 + 1))) 15) (fun _ => rfl) ?_
      rw [nI_1]
      refine R_go 1 (pc' := 4) (L' := [some (.ref 48), some (.int (((v * 10) + b) - 48)), some (.int (nI (n + 1)))]) (st' := []) (h' := mk (up M 45 4 (nI (s.1 + 1))) 15) (fun _ => rfl) ?_
      exact k1
    · exact absurd (hd) g2
set_option maxRecDepth 100000 in
set_option maxHeartbeats 4000000 in
theorem tc_num_e {ro : xRO} {d : Nat} {M : xM} {T : Nat} {Q : Option Value → xH → Prop} {f : Nat → Int32} {L u : Nat} {Mb : xM} {s : tpS} (hx : tpX f L u Mb s M) (hle : s.1 ≤ L) (h60 : L ≤ 60) {b : Int32} (hb : tp_lk f L s.1 = b) (hd : ¬ (48 ≤ b ∧ b ≤ 57)) (hs : s.2.1 < 60) {n : Nat} {v : Int32} (n4 : n < 4) (k1 : Q none (mk (up (up M 47 s.2.1 v) 46 2 (nI (s.2.1 + 1))) 15)) : Rn ro (d + 2) M_X2_readNumber 4 [some (.ref 48), some (.int v), some (.int (nI n))] [] (mk M 15) Q := by
  refine R_if 3 (c := 4 ≤ (nI n)) (t := 48) (f := 9) (L' := [some (.ref 48), some (.int v), some (.int (nI n))]) (st' := []) (h' := mk M 15) (fun _ => rfl) (fun g1 => ?_) (fun g1 => ?_)
  · replace g1 : 4 ≤ n := (nI_leI (a := 4) (b := n) (by omega) (by omega)).mp g1
    omega
  · replace g1 : ¬ 4 ≤ n := fun q => g1 ((nI_leI (a := 4) (b := n) (by omega) (by omega)).mpr q)
    refine R_go 1 (pc' := 10) (L' := [some (.ref 48), some (.int v), some (.int (nI n))]) (st' := [.ref 48]) (h' := mk M 15) (fun _ => rfl) ?_
    refine R_callD (i := .invokevirtual 52) (kd := 0) (y := M_X2_next) (as := [.ref 48]) (r := []) (L0 := [some (.ref 48)]) (v := some (.int (tp_lk f L s.1))) (h' := mk M 15) (pc' := 13) (st' := [.int (tp_lk f L s.1)]) rfl rfl rfl rfl rfl rfl (tc_next hx hle h60) ?_
    refine R_top (y := b) hb ?_
    refine R_call2 (i := .invokestatic 64) (kd := 1) (y := M_X2_isDigit) (as := [.int b]) (r := []) (L0 := [some (.int b)]) (v1 := some (.int 1)) (v2 := some (.int 0)) (h1' := mk M 15) (h2' := mk M 15) (pc' := 16) (st1 := [.int 1]) (st2 := [.int 0]) rfl rfl rfl rfl rfl rfl (tc_isDigit) (fun g2 => ?_) (fun g2 => ?_)
    · exact absurd g2 (hd)
    · refine R_go 4 (pc' := 53) (L' := [some (.ref 48), some (.int v), some (.int (nI n))]) (st' := [.int v, .ref 49]) (h' := mk M 15) (fun _ => rfl) ?_
      refine R_callD (i := .invokevirtual 60) (kd := 0) (y := M_X6_addStep) (as := [.ref 49, .int v]) (r := []) (L0 := [some (.ref 49), some (.int v)]) (v := none) (h' := mk (up (up M 47 s.2.1 v) 46 2 (nI (s.2.1 + 1))) 15) (pc' := 56) (st' := []) rfl rfl rfl rfl rfl rfl (tc_add (M := M) (k := s.2.1) hx.2.1 (by omega)) ?_
      refine R_ret 1 (pcr := 56) (v := none) (h' := mk (up (up M 47 s.2.1 v) 46 2 (nI (s.2.1 + 1))) 15) (fun _ => rfl) ?_
      exact k1
set_option maxRecDepth 100000 in
set_option maxHeartbeats 4000000 in
theorem tc_num_4 {ro : xRO} {d : Nat} {M : xM} {T : Nat} {Q : Option Value → xH → Prop} {f : Nat → Int32} {L u : Nat} {Mb : xM} {s : tpS} (hx : tpX f L u Mb s M) (hle : s.1 ≤ L) (h60 : L ≤ 60) (hs : s.2.1 < 60) {v : Int32} (k1 : Q none (mk (up (up M 47 s.2.1 v) 46 2 (nI (s.2.1 + 1))) 15)) : Rn ro (d + 2) M_X2_readNumber 4 [some (.ref 48), some (.int v), some (.int 4)] [] (mk M 15) Q := by
  refine R_go 6 (pc' := 53) (L' := [some (.ref 48), some (.int v), some (.int 4)]) (st' := [.int v, .ref 49]) (h' := mk M 15) (fun _ => rfl) ?_
  refine R_callD (i := .invokevirtual 60) (kd := 0) (y := M_X6_addStep) (as := [.ref 49, .int v]) (r := []) (L0 := [some (.ref 49), some (.int v)]) (v := none) (h' := mk (up (up M 47 s.2.1 v) 46 2 (nI (s.2.1 + 1))) 15) (pc' := 56) (st' := []) rfl rfl rfl rfl rfl rfl (tc_add (M := M) (k := s.2.1) hx.2.1 (by omega)) ?_
  refine R_ret 1 (pcr := 56) (v := none) (h' := mk (up (up M 47 s.2.1 v) 46 2 (nI (s.2.1 + 1))) 15) (fun _ => rfl) ?_
  exact k1
theorem tc_num_all {ro : xRO} {d : Nat} {f : Nat → Int32} {L u : Nat} {Mb : xM} (h60 : L ≤ 60) : ∀ (r n : Nat) (v : Int32) (s : tpS) (M : xM), n + r = 4 → tpX f L u Mb s M → s.1 ≤ L → s.2.1 < 60 → Rn ro (d + 2) M_X2_readNumber 4 [some (.ref 48), some (.int v), some (.int (nI n))] [] (mk M 15) (fun rr h => ∃ M', tpX f L u Mb (tp_psh ((tp_num f L r s.1 v).1, s.2) 1 (tp_num f L r s.1 v).2) M' ∧ rr = none ∧ h = mk M' 15) := by
  intro r
  induction r with
  | zero =>
    intro n v s M hn hx hle hs
    obtain rfl : n = 4 := by omega
    exact tc_num_4 (T := 15) hx hle h60 hs ⟨_, hx.psh encS_1.symm, rfl, rfl⟩
  | succ r ih =>
    intro n v s M hn hx hle hs
    unfold tp_num
    by_cases hd : 48 ≤ tp_lk f L s.1 ∧ tp_lk f L s.1 ≤ 57
    · rw [if_pos hd]
      exact tc_num_t (T := 15) hx hle h60 rfl hd (by omega) (ih (n + 1) _ (tp_adv s) _ (by omega) hx.adv (tp_dg_lt hd) hs)
    · rw [if_neg hd]
      exact tc_num_e (T := 15) hx hle h60 rfl hd hs (by omega) ⟨_, hx.psh encS_1.symm, rfl, rfl⟩
theorem tc_number {ro : xRO} {d : Nat} {f : Nat → Int32} {L u : Nat} {Mb M : xM} {s : tpS} (hx : tpX f L u Mb s M) (hle : s.1 ≤ L) (h60 : L ≤ 60) (hs : s.2.1 < 60) : Rn ro (d + 2) M_X2_readNumber 0 [some (.ref 48), none, none] [] (mk M 15) (fun rr h => ∃ M', tpX f L u Mb (tp_psh ((tp_num f L 4 s.1 0).1, s.2) 1 (tp_num f L 4 s.1 0).2) M' ∧ rr = none ∧ h = mk M' 15) :=
  R_go 4 (pc' := 4) (L' := [some (.ref 48), some (.int 0), some (.int 0)]) (st' := []) (h' := mk M 15) (fun _ => rfl) (tc_num_all h60 4 0 0 s M (by omega) hx hle hs)
set_option maxRecDepth 100000 in
set_option maxHeartbeats 4000000 in
theorem tc_pt_num {ro : xRO} {d : Nat} {M : xM} {T : Nat} {Q : Option Value → xH → Prop} {f : Nat → Int32} {L u : Nat} {Mb : xM} {s : tpS} (hx : tpX f L u Mb s M) (hle : s.1 ≤ L) (h60 : L ≤ 60) {b : Int32} (hb : tp_lk f L s.1 = b) (hd : 48 ≤ b ∧ b ≤ 57) (hs : s.2.1 < 60) {op : Nat} (k1 : ∀ M1, tpX f L u Mb (tp_psh ((tp_num f L 4 s.1 0).1, s.2) 1 (tp_num f L 4 s.1 0).2) M1 → Q (some (.int 1)) (mk M1 15)) : Rn ro (d + 4) M_X2_readPart 0 [some (.ref 48), some (.int (nI op)), none, none, none] [] (mk M 15) Q := by
  refine R_go 1 (pc' := 1) (L' := [some (.ref 48), some (.int (nI op)), none, none, none]) (st' := [.ref 48]) (h' := mk M 15) (fun _ => rfl) ?_
  refine R_callD (i := .invokevirtual 52) (kd := 0) (y := M_X2_next) (as := [.ref 48]) (r := []) (L0 := [some (.ref 48)]) (v := some (.int (tp_lk f L s.1))) (h' := mk M 15) (pc' := 4) (st' := [.int (tp_lk f L s.1)]) rfl rfl rfl rfl rfl rfl (tc_next hx hle h60) ?_
  refine R_top (y := b) hb ?_
  refine R_go 2 (pc' := 6) (L' := [some (.ref 48), some (.int (nI op)), some (.int b), none, none]) (st' := [.int b]) (h' := mk M 15) (fun _ => rfl) ?_
  refine R_call2 (i := .invokestatic 64) (kd := 1) (y := M_X2_isDigit) (as := [.int b]) (r := []) (L0 := [some (.int b)]) (v1 := some (.int 1)) (v2 := some (.int 0)) (h1' := mk M 15) (h2' := mk M 15) (pc' := 9) (st1 := [.int 1]) (st2 := [.int 0]) rfl rfl rfl rfl rfl rfl (tc_isDigit) (fun g1 => ?_) (fun g1 => ?_)
  · refine R_go 2 (pc' := 13) (L' := [some (.ref 48), some (.int (nI op)), some (.int b), none, none]) (st' := [.ref 48]) (h' := mk M 15) (fun _ => rfl) ?_
    refine R_callE (i := .invokevirtual 67) (kd := 0) (y := M_X2_readNumber) (as := [.ref 48]) (r := []) (L0 := [some (.ref 48), none, none]) (v := fun M1 => none) (h' := fun M1 => mk M1 15) (pc' := 16) (st' := fun M1 => []) rfl rfl rfl rfl rfl rfl (tc_number hx hle h60 (by omega)) (fun M1 g2 => ?_)
    have hx1 := g2
    refine R_ret 2 (pcr := 17) (v := some (.int 1)) (h' := mk M1 15) (fun _ => rfl) ?_
    exact k1 M1 hx1
  · exact absurd (hd) g1
theorem tp_nlt {x : Int32} (h : 0 ≤ x) : ¬ x < 0 := k2_nlt h
set_option maxRecDepth 100000 in
set_option maxHeartbeats 4000000 in
theorem tc_pt_nam {ro : xRO} {d : Nat} {M : xM} {T : Nat} {Q : Option Value → xH → Prop} {f : Nat → Int32} {L u : Nat} {Mb : xM} {s : tpS} (hx : tpX f L u Mb s M) (hle : s.1 ≤ L) (h60 : L ≤ 60) {b : Int32} (hb : tp_lk f L s.1 = b) (hd : ¬ (48 ≤ b ∧ b ≤ 57)) (u1 : u ≤ 1) {op : Nat} (o5 : op ≤ 5) (hn : 0 ≤ tp_nm u b) (hs : s.2.1 < 60) (k1 : Q (some (.int 1)) (mk (up (up (up M 45 4 (nI (s.1 + 1))) 47 s.2.1 (10000 + tp_nm u b)) 46 2 (nI (s.2.1 + 1))) 15)) : Rn ro (d + 4) M_X2_readPart 0 [some (.ref 48), some (.int (nI op)), none, none, none] [] (mk M 15) Q := by
  refine R_go 1 (pc' := 1) (L' := [some (.ref 48), some (.int (nI op)), none, none, none]) (st' := [.ref 48]) (h' := mk M 15) (fun _ => rfl) ?_
  refine R_callD (i := .invokevirtual 52) (kd := 0) (y := M_X2_next) (as := [.ref 48]) (r := []) (L0 := [some (.ref 48)]) (v := some (.int (tp_lk f L s.1))) (h' := mk M 15) (pc' := 4) (st' := [.int (tp_lk f L s.1)]) rfl rfl rfl rfl rfl rfl (tc_next hx hle h60) ?_
  refine R_top (y := b) hb ?_
  refine R_go 2 (pc' := 6) (L' := [some (.ref 48), some (.int (nI op)), some (.int b), none, none]) (st' := [.int b]) (h' := mk M 15) (fun _ => rfl) ?_
  refine R_call2 (i := .invokestatic 64) (kd := 1) (y := M_X2_isDigit) (as := [.int b]) (r := []) (L0 := [some (.int b)]) (v1 := some (.int 1)) (v2 := some (.int 0)) (h1' := mk M 15) (h2' := mk M 15) (pc' := 9) (st1 := [.int 1]) (st2 := [.int 0]) rfl rfl rfl rfl rfl rfl (tc_isDigit) (fun g1 => ?_) (fun g1 => ?_)
  · exact absurd g1 (hd)
  · refine R_go 3 (pc' := 20) (L' := [some (.ref 48), some (.int (nI op)), some (.int b), none, none]) (st' := [.int b, .ref 48]) (h' := mk M 15) (fun _ => rfl) ?_
    refine R_callD (i := .invokevirtual 70) (kd := 0) (y := M_X2_nameOf) (as := [.ref 48, .int b]) (r := []) (L0 := [some (.ref 48), some (.int b)]) (v := some (.int (tp_nm u b))) (h' := mk M 15) (pc' := 23) (st' := [.int (tp_nm u b)]) rfl rfl rfl rfl rfl rfl (tc_nameOf hx u1) ?_
    refine R_if 3 (c := (tp_nm u b) < 0) (t := 52) (f := 28) (L' := [some (.ref 48), some (.int (nI op)), some (.int b), some (.int (tp_nm u b)), none]) (st' := []) (h' := mk M 15) (fun _ => rfl) (fun g2 => ?_) (fun g2 => ?_)
    · exact absurd g2 (tp_nlt hn)
    · refine R_go 3 (pc' := 33) (L' := [some (.ref 48), some (.int (nI op)), some (.int b), some (.int (tp_nm u b)), none]) (st' := [.int (M 45 4), .ref 48]) (h' := mk M 15) (fun _ => rfl) ?_
      refine R_top (y := nI s.1) (hx.1) ?_
      refine R_go 2 (pc' := 35) (L' := [some (.ref 48), some (.int (nI op)), some (.int b), some (.int (tp_nm u b)), none]) (st' := [.int (nI s.1 + 1), .ref 48]) (h' := mk M 15) (fun _ => rfl) ?_
      refine R_top (nI_add s.1 1) ?_
      refine R_go 6 (pc' := 47) (L' := [some (.ref 48), some (.int (nI op)), some (.int b), some (.int (tp_nm u b)), none]) (st' := [.int (10000 + (tp_nm u b)), .ref 49]) (h' := mk (up M 45 4 (nI (s.1 + 1))) 15) (fun _ => rfl) ?_
      refine R_callD (i := .invokevirtual 60) (kd := 0) (y := M_X6_addStep) (as := [.ref 49, .int (10000 + (tp_nm u b))]) (r := []) (L0 := [some (.ref 49), some (.int (10000 + (tp_nm u b)))]) (v := none) (h' := mk (up (up (up M 45 4 (nI (s.1 + 1))) 47 s.2.1 (10000 + (tp_nm u b))) 46 2 (nI (s.2.1 + 1))) 15) (pc' := 50) (st' := []) rfl rfl rfl rfl rfl rfl (tc_add (M := up M 45 4 (nI (s.1 + 1))) (k := s.2.1) hx.2.1 (by omega)) ?_
      refine R_ret 2 (pcr := 51) (v := some (.int 1)) (h' := mk (up (up (up M 45 4 (nI (s.1 + 1))) 47 s.2.1 (10000 + (tp_nm u b))) 46 2 (nI (s.2.1 + 1))) 15) (fun _ => rfl) ?_
      exact k1
set_option maxRecDepth 100000 in
set_option maxHeartbeats 4000000 in
theorem tc_pt_5 {ro : xRO} {d : Nat} {M : xM} {T : Nat} {Q : Option Value → xH → Prop} {f : Nat → Int32} {L u : Nat} {Mb : xM} {s : tpS} (hx : tpX f L u Mb s M) (hle : s.1 ≤ L) (h60 : L ≤ 60) {b : Int32} (hb : tp_lk f L s.1 = b) (hd : ¬ (48 ≤ b ∧ b ≤ 57)) (u1 : u ≤ 1) (hn : tp_nm u b < 0)  (k1 : Q (some (.int 0)) (mk M 15)) : Rn ro (d + 4) M_X2_readPart 0 [some (.ref 48), some (.int 5), none, none, none] [] (mk M 15) Q := by
  refine R_go 1 (pc' := 1) (L' := [some (.ref 48), some (.int 5), none, none, none]) (st' := [.ref 48]) (h' := mk M 15) (fun _ => rfl) ?_
  refine R_callD (i := .invokevirtual 52) (kd := 0) (y := M_X2_next) (as := [.ref 48]) (r := []) (L0 := [some (.ref 48)]) (v := some (.int (tp_lk f L s.1))) (h' := mk M 15) (pc' := 4) (st' := [.int (tp_lk f L s.1)]) rfl rfl rfl rfl rfl rfl (tc_next hx hle h60) ?_
  refine R_top (y := b) hb ?_
  refine R_go 2 (pc' := 6) (L' := [some (.ref 48), some (.int 5), some (.int b), none, none]) (st' := [.int b]) (h' := mk M 15) (fun _ => rfl) ?_
  refine R_call2 (i := .invokestatic 64) (kd := 1) (y := M_X2_isDigit) (as := [.int b]) (r := []) (L0 := [some (.int b)]) (v1 := some (.int 1)) (v2 := some (.int 0)) (h1' := mk M 15) (h2' := mk M 15) (pc' := 9) (st1 := [.int 1]) (st2 := [.int 0]) rfl rfl rfl rfl rfl rfl (tc_isDigit) (fun g1 => ?_) (fun g1 => ?_)
  · exact absurd g1 (hd)
  · refine R_go 3 (pc' := 20) (L' := [some (.ref 48), some (.int 5), some (.int b), none, none]) (st' := [.int b, .ref 48]) (h' := mk M 15) (fun _ => rfl) ?_
    refine R_callD (i := .invokevirtual 70) (kd := 0) (y := M_X2_nameOf) (as := [.ref 48, .int b]) (r := []) (L0 := [some (.ref 48), some (.int b)]) (v := some (.int (tp_nm u b))) (h' := mk M 15) (pc' := 23) (st' := [.int (tp_nm u b)]) rfl rfl rfl rfl rfl rfl (tc_nameOf hx u1) ?_
    refine R_if 3 (c := (tp_nm u b) < 0) (t := 52) (f := 28) (L' := [some (.ref 48), some (.int 5), some (.int b), some (.int (tp_nm u b)), none]) (st' := []) (h' := mk M 15) (fun _ => rfl) (fun g2 => ?_) (fun g2 => ?_)
    · refine R_ret 5 (pcr := 70) (v := some (.int 0)) (h' := mk M 15) (fun _ => rfl) ?_
      exact k1
    · exact absurd (hn) g2
set_option maxRecDepth 100000 in
set_option maxHeartbeats 4000000 in
theorem tc_pt_no {ro : xRO} {d : Nat} {M : xM} {T : Nat} {Q : Option Value → xH → Prop} {f : Nat → Int32} {L u : Nat} {Mb : xM} {s : tpS} (hx : tpX f L u Mb s M) (hle : s.1 ≤ L) (h60 : L ≤ 60) {b : Int32} (hb : tp_lk f L s.1 = b) (hd : ¬ (48 ≤ b ∧ b ≤ 57)) (u1 : u ≤ 1) {op : Nat} (o5 : op < 5) (hn : tp_nm u b < 0) (n33 : ¬ b = 33) (n40 : ¬ b = 40) (k1 : Q (some (.int 0)) (mk M 15)) : Rn ro (d + 4) M_X2_readPart 0 [some (.ref 48), some (.int (nI op)), none, none, none] [] (mk M 15) Q := by
  refine R_go 1 (pc' := 1) (L' := [some (.ref 48), some (.int (nI op)), none, none, none]) (st' := [.ref 48]) (h' := mk M 15) (fun _ => rfl) ?_
  refine R_callD (i := .invokevirtual 52) (kd := 0) (y := M_X2_next) (as := [.ref 48]) (r := []) (L0 := [some (.ref 48)]) (v := some (.int (tp_lk f L s.1))) (h' := mk M 15) (pc' := 4) (st' := [.int (tp_lk f L s.1)]) rfl rfl rfl rfl rfl rfl (tc_next hx hle h60) ?_
  refine R_top (y := b) hb ?_
  refine R_go 2 (pc' := 6) (L' := [some (.ref 48), some (.int (nI op)), some (.int b), none, none]) (st' := [.int b]) (h' := mk M 15) (fun _ => rfl) ?_
  refine R_call2 (i := .invokestatic 64) (kd := 1) (y := M_X2_isDigit) (as := [.int b]) (r := []) (L0 := [some (.int b)]) (v1 := some (.int 1)) (v2 := some (.int 0)) (h1' := mk M 15) (h2' := mk M 15) (pc' := 9) (st1 := [.int 1]) (st2 := [.int 0]) rfl rfl rfl rfl rfl rfl (tc_isDigit) (fun g1 => ?_) (fun g1 => ?_)
  · exact absurd g1 (hd)
  · refine R_go 3 (pc' := 20) (L' := [some (.ref 48), some (.int (nI op)), some (.int b), none, none]) (st' := [.int b, .ref 48]) (h' := mk M 15) (fun _ => rfl) ?_
    refine R_callD (i := .invokevirtual 70) (kd := 0) (y := M_X2_nameOf) (as := [.ref 48, .int b]) (r := []) (L0 := [some (.ref 48), some (.int b)]) (v := some (.int (tp_nm u b))) (h' := mk M 15) (pc' := 23) (st' := [.int (tp_nm u b)]) rfl rfl rfl rfl rfl rfl (tc_nameOf hx u1) ?_
    refine R_if 3 (c := (tp_nm u b) < 0) (t := 52) (f := 28) (L' := [some (.ref 48), some (.int (nI op)), some (.int b), some (.int (tp_nm u b)), none]) (st' := []) (h' := mk M 15) (fun _ => rfl) (fun g2 => ?_) (fun g2 => ?_)
    · refine R_if 3 (c := 5 ≤ (nI op)) (t := 69) (f := 57) (L' := [some (.ref 48), some (.int (nI op)), some (.int b), some (.int (tp_nm u b)), none]) (st' := []) (h' := mk M 15) (fun _ => rfl) (fun g3 => ?_) (fun g3 => ?_)
      · replace g3 : 5 ≤ op := (nI_leI (a := 5) (b := op) (by omega) (by omega)).mp g3
        omega
      · replace g3 : ¬ 5 ≤ op := fun q => g3 ((nI_leI (a := 5) (b := op) (by omega) (by omega)).mpr q)
        refine R_if 3 (c := b = 33) (t := 71) (f := 63) (L' := [some (.ref 48), some (.int (nI op)), some (.int b), some (.int (tp_nm u b)), none]) (st' := []) (h' := mk M 15) (fun _ => rfl) (fun g4 => ?_) (fun g4 => ?_)
        · exact absurd g4 (n33)
        · refine R_if 3 (c := b = 40) (t := 71) (f := 69) (L' := [some (.ref 48), some (.int (nI op)), some (.int b), some (.int (tp_nm u b)), none]) (st' := []) (h' := mk M 15) (fun _ => rfl) (fun g5 => ?_) (fun g5 => ?_)
          · exact absurd g5 (n40)
          · refine R_ret 2 (pcr := 70) (v := some (.int 0)) (h' := mk M 15) (fun _ => rfl) ?_
            exact k1
    · exact absurd (hn) g2
theorem tp_nm_33 {u : Nat} : tp_nm u 33 = -1 := by
  unfold tp_nm
  split <;> rfl
theorem tp_nm_40 {u : Nat} : tp_nm u 40 = -1 := by
  unfold tp_nm
  split <;> rfl
set_option maxRecDepth 100000 in
set_option maxHeartbeats 4000000 in
theorem tc_pt_not_g {ro : xRO} {d : Nat} {M : xM} {T : Nat} {Q : Option Value → xH → Prop} {f : Nat → Int32} {L u : Nat} {Mb : xM} {s : tpS} (hx : tpX f L u Mb s M) (hle : s.1 ≤ L) (h60 : L ≤ 60) (hb : tp_lk f L s.1 = 33) (u1 : u ≤ 1) {op : Nat} (o5 : op < 5) {s1 : tpS} (hsub : Rn ro (d + 3) M_X2_readPart 0 [some (.ref 48), some (.int (nI (op + 1))), none, none, none] [] (mk (up M 45 4 (nI (s.1 + 1))) 15) (fun rr h => ∃ M1, tpX f L u Mb (s1) M1 ∧ rr = some (.int 1) ∧ h = mk M1 15)) (hs : s1.2.1 < 60) (k1 : ∀ M1, tpX f L u Mb (s1) M1 → Q (some (.int 1)) (mk (up (up M1 47 s1.2.1 20033) 46 2 (nI (s1.2.1 + 1))) 15)) : Rn ro (d + 4) M_X2_readPart 0 [some (.ref 48), some (.int (nI op)), none, none, none] [] (mk M 15) Q := by
  refine R_go 1 (pc' := 1) (L' := [some (.ref 48), some (.int (nI op)), none, none, none]) (st' := [.ref 48]) (h' := mk M 15) (fun _ => rfl) ?_
  refine R_callD (i := .invokevirtual 52) (kd := 0) (y := M_X2_next) (as := [.ref 48]) (r := []) (L0 := [some (.ref 48)]) (v := some (.int (tp_lk f L s.1))) (h' := mk M 15) (pc' := 4) (st' := [.int (tp_lk f L s.1)]) rfl rfl rfl rfl rfl rfl (tc_next hx hle h60) ?_
  refine R_top (y := 33) hb ?_
  refine R_go 2 (pc' := 6) (L' := [some (.ref 48), some (.int (nI op)), some (.int 33), none, none]) (st' := [.int 33]) (h' := mk M 15) (fun _ => rfl) ?_
  refine R_call2 (i := .invokestatic 64) (kd := 1) (y := M_X2_isDigit) (as := [.int 33]) (r := []) (L0 := [some (.int 33)]) (v1 := some (.int 1)) (v2 := some (.int 0)) (h1' := mk M 15) (h2' := mk M 15) (pc' := 9) (st1 := [.int 1]) (st2 := [.int 0]) rfl rfl rfl rfl rfl rfl ((tc_isDigit (b := 33))) (fun g1 => ?_) (fun g1 => ?_)
  · exact absurd g1 (by decide)
  · refine R_go 3 (pc' := 20) (L' := [some (.ref 48), some (.int (nI op)), some (.int 33), none, none]) (st' := [.int 33, .ref 48]) (h' := mk M 15) (fun _ => rfl) ?_
    refine R_callD (i := .invokevirtual 70) (kd := 0) (y := M_X2_nameOf) (as := [.ref 48, .int 33]) (r := []) (L0 := [some (.ref 48), some (.int 33)]) (v := some (.int (tp_nm u 33))) (h' := mk M 15) (pc' := 23) (st' := [.int (tp_nm u 33)]) rfl rfl rfl rfl rfl rfl (tc_nameOf hx u1) ?_
    refine R_top (y := -1) tp_nm_33 ?_
    refine R_if 6 (c := 5 ≤ (nI op)) (t := 69) (f := 57) (L' := [some (.ref 48), some (.int (nI op)), some (.int 33), some (.int (-1)), none]) (st' := []) (h' := mk M 15) (fun _ => rfl) (fun g2 => ?_) (fun g2 => ?_)
    · replace g2 : 5 ≤ op := (nI_leI (a := 5) (b := op) (by omega) (by omega)).mp g2
      omega
    · replace g2 : ¬ 5 ≤ op := fun q => g2 ((nI_leI (a := 5) (b := op) (by omega) (by omega)).mpr q)
      refine R_go 6 (pc' := 76) (L' := [some (.ref 48), some (.int (nI op)), some (.int 33), some (.int (-1)), none]) (st' := [.int (M 45 4), .ref 48]) (h' := mk M 15) (fun _ => rfl) ?_
      refine R_top (y := nI s.1) (hx.1) ?_
      refine R_go 2 (pc' := 78) (L' := [some (.ref 48), some (.int (nI op)), some (.int 33), some (.int (-1)), none]) (st' := [.int (nI s.1 + 1), .ref 48]) (h' := mk M 15) (fun _ => rfl) ?_
      refine R_top (nI_add s.1 1) ?_
      refine R_go 8 (pc' := 91) (L' := [some (.ref 48), some (.int (nI op)), some (.int 33), some (.int (-1)), none]) (st' := [.int (nI op + 1), .ref 48]) (h' := mk (up M 45 4 (nI (s.1 + 1))) 15) (fun _ => rfl) ?_
      refine R_top (nI_add op 1) ?_
      refine R_callE (i := .invokevirtual 48) (kd := 0) (y := M_X2_readPart) (as := [.ref 48, .int (nI (op + 1))]) (r := []) (L0 := [some (.ref 48), some (.int (nI (op + 1))), none, none, none]) (v := fun M1 => some (.int 1)) (h' := fun M1 => mk M1 15) (pc' := 94) (st' := fun M1 => [.int 1]) rfl rfl rfl rfl rfl rfl (hsub) (fun M1 g3 => ?_)
      have hx1 := g3
      refine R_go 6 (pc' := 105) (L' := [some (.ref 48), some (.int (nI op)), some (.int 33), some (.int (-1)), some (.int 1)]) (st' := [.int 20033, .ref 49]) (h' := mk M1 15) (fun _ => rfl) ?_
      refine R_callD (i := .invokevirtual 60) (kd := 0) (y := M_X6_addStep) (as := [.ref 49, .int 20033]) (r := []) (L0 := [some (.ref 49), some (.int 20033)]) (v := none) (h' := mk (up (up M1 47 s1.2.1 20033) 46 2 (nI (s1.2.1 + 1))) 15) (pc' := 108) (st' := []) rfl rfl rfl rfl rfl rfl (tc_add (M := M1) (k := s1.2.1) hx1.2.1 (by omega)) ?_
      refine R_ret 2 (pcr := 110) (v := some (.int 1)) (h' := mk (up (up M1 47 s1.2.1 20033) 46 2 (nI (s1.2.1 + 1))) 15) (fun _ => rfl) ?_
      exact k1 M1 hx1
set_option maxRecDepth 100000 in
set_option maxHeartbeats 4000000 in
theorem tc_pt_not_f {ro : xRO} {d : Nat} {M : xM} {T : Nat} {Q : Option Value → xH → Prop} {f : Nat → Int32} {L u : Nat} {Mb : xM} {s : tpS} (hx : tpX f L u Mb s M) (hle : s.1 ≤ L) (h60 : L ≤ 60) (hb : tp_lk f L s.1 = 33) (u1 : u ≤ 1) {op : Nat} (o5 : op < 5) {p : Nat} (hsub : Rn ro (d + 3) M_X2_readPart 0 [some (.ref 48), some (.int (nI (op + 1))), none, none, none] [] (mk (up M 45 4 (nI (s.1 + 1))) 15) (fun rr h => ∃ M1, tpF Mb (p) M1 ∧ rr = some (.int 0) ∧ h = mk M1 15))  (k1 : ∀ M1, tpF Mb (p) M1 → Q (some (.int 0)) (mk M1 15)) : Rn ro (d + 4) M_X2_readPart 0 [some (.ref 48), some (.int (nI op)), none, none, none] [] (mk M 15) Q := by
  refine R_go 1 (pc' := 1) (L' := [some (.ref 48), some (.int (nI op)), none, none, none]) (st' := [.ref 48]) (h' := mk M 15) (fun _ => rfl) ?_
  refine R_callD (i := .invokevirtual 52) (kd := 0) (y := M_X2_next) (as := [.ref 48]) (r := []) (L0 := [some (.ref 48)]) (v := some (.int (tp_lk f L s.1))) (h' := mk M 15) (pc' := 4) (st' := [.int (tp_lk f L s.1)]) rfl rfl rfl rfl rfl rfl (tc_next hx hle h60) ?_
  refine R_top (y := 33) hb ?_
  refine R_go 2 (pc' := 6) (L' := [some (.ref 48), some (.int (nI op)), some (.int 33), none, none]) (st' := [.int 33]) (h' := mk M 15) (fun _ => rfl) ?_
  refine R_call2 (i := .invokestatic 64) (kd := 1) (y := M_X2_isDigit) (as := [.int 33]) (r := []) (L0 := [some (.int 33)]) (v1 := some (.int 1)) (v2 := some (.int 0)) (h1' := mk M 15) (h2' := mk M 15) (pc' := 9) (st1 := [.int 1]) (st2 := [.int 0]) rfl rfl rfl rfl rfl rfl ((tc_isDigit (b := 33))) (fun g1 => ?_) (fun g1 => ?_)
  · exact absurd g1 (by decide)
  · refine R_go 3 (pc' := 20) (L' := [some (.ref 48), some (.int (nI op)), some (.int 33), none, none]) (st' := [.int 33, .ref 48]) (h' := mk M 15) (fun _ => rfl) ?_
    refine R_callD (i := .invokevirtual 70) (kd := 0) (y := M_X2_nameOf) (as := [.ref 48, .int 33]) (r := []) (L0 := [some (.ref 48), some (.int 33)]) (v := some (.int (tp_nm u 33))) (h' := mk M 15) (pc' := 23) (st' := [.int (tp_nm u 33)]) rfl rfl rfl rfl rfl rfl (tc_nameOf hx u1) ?_
    refine R_top (y := -1) tp_nm_33 ?_
    refine R_if 6 (c := 5 ≤ (nI op)) (t := 69) (f := 57) (L' := [some (.ref 48), some (.int (nI op)), some (.int 33), some (.int (-1)), none]) (st' := []) (h' := mk M 15) (fun _ => rfl) (fun g2 => ?_) (fun g2 => ?_)
    · replace g2 : 5 ≤ op := (nI_leI (a := 5) (b := op) (by omega) (by omega)).mp g2
      omega
    · replace g2 : ¬ 5 ≤ op := fun q => g2 ((nI_leI (a := 5) (b := op) (by omega) (by omega)).mpr q)
      refine R_go 6 (pc' := 76) (L' := [some (.ref 48), some (.int (nI op)), some (.int 33), some (.int (-1)), none]) (st' := [.int (M 45 4), .ref 48]) (h' := mk M 15) (fun _ => rfl) ?_
      refine R_top (y := nI s.1) (hx.1) ?_
      refine R_go 2 (pc' := 78) (L' := [some (.ref 48), some (.int (nI op)), some (.int 33), some (.int (-1)), none]) (st' := [.int (nI s.1 + 1), .ref 48]) (h' := mk M 15) (fun _ => rfl) ?_
      refine R_top (nI_add s.1 1) ?_
      refine R_go 8 (pc' := 91) (L' := [some (.ref 48), some (.int (nI op)), some (.int 33), some (.int (-1)), none]) (st' := [.int (nI op + 1), .ref 48]) (h' := mk (up M 45 4 (nI (s.1 + 1))) 15) (fun _ => rfl) ?_
      refine R_top (nI_add op 1) ?_
      refine R_callE (i := .invokevirtual 48) (kd := 0) (y := M_X2_readPart) (as := [.ref 48, .int (nI (op + 1))]) (r := []) (L0 := [some (.ref 48), some (.int (nI (op + 1))), none, none, none]) (v := fun M1 => some (.int 0)) (h' := fun M1 => mk M1 15) (pc' := 94) (st' := fun M1 => [.int 0]) rfl rfl rfl rfl rfl rfl (hsub) (fun M1 g3 => ?_)
      have hx1 := g3
      refine R_go 6 (pc' := 105) (L' := [some (.ref 48), some (.int (nI op)), some (.int 33), some (.int (-1)), some (.int 0)]) (st' := [.int 20033, .ref 49]) (h' := mk M1 15) (fun _ => rfl) ?_
      refine R_callE (i := .invokevirtual 60) (kd := 0) (y := M_X6_addStep) (as := [.ref 49, .int 20033]) (r := []) (L0 := [some (.ref 49), some (.int 20033)]) (v := fun M2 => none) (h' := fun M2 => mk M2 15) (pc' := 108) (st' := fun M2 => []) rfl rfl rfl rfl rfl rfl (tc_addF hx1) (fun M2 g4 => ?_)
      have hx2 := g4
      refine R_ret 2 (pcr := 110) (v := some (.int 0)) (h' := mk M2 15) (fun _ => rfl) ?_
      exact k1 M2 hx2
set_option maxRecDepth 100000 in
set_option maxHeartbeats 4000000 in
theorem tc_pt_par_f {ro : xRO} {d : Nat} {M : xM} {T : Nat} {Q : Option Value → xH → Prop} {f : Nat → Int32} {L u : Nat} {Mb : xM} {s : tpS} (hx : tpX f L u Mb s M) (hle : s.1 ≤ L) (h60 : L ≤ 60) (hb : tp_lk f L s.1 = 40) (u1 : u ≤ 1) {op : Nat} (o5 : op < 5) {p : Nat} (hsub : Rn ro (d + 3) M_X2_readLevel 0 [some (.ref 48), some (.int 0), some (.int (nI (op + 1))), none, none] [] (mk (up M 45 4 (nI (s.1 + 1))) 15) (fun rr h => ∃ M1, tpF Mb (p) M1 ∧ rr = some (.int 0) ∧ h = mk M1 15))  (k1 : ∀ M1, tpF Mb (p) M1 → Q (some (.int 0)) (mk M1 15)) : Rn ro (d + 4) M_X2_readPart 0 [some (.ref 48), some (.int (nI op)), none, none, none] [] (mk M 15) Q := by
  refine R_go 1 (pc' := 1) (L' := [some (.ref 48), some (.int (nI op)), none, none, none]) (st' := [.ref 48]) (h' := mk M 15) (fun _ => rfl) ?_
  refine R_callD (i := .invokevirtual 52) (kd := 0) (y := M_X2_next) (as := [.ref 48]) (r := []) (L0 := [some (.ref 48)]) (v := some (.int (tp_lk f L s.1))) (h' := mk M 15) (pc' := 4) (st' := [.int (tp_lk f L s.1)]) rfl rfl rfl rfl rfl rfl (tc_next hx hle h60) ?_
  refine R_top (y := 40) hb ?_
  refine R_go 2 (pc' := 6) (L' := [some (.ref 48), some (.int (nI op)), some (.int 40), none, none]) (st' := [.int 40]) (h' := mk M 15) (fun _ => rfl) ?_
  refine R_call2 (i := .invokestatic 64) (kd := 1) (y := M_X2_isDigit) (as := [.int 40]) (r := []) (L0 := [some (.int 40)]) (v1 := some (.int 1)) (v2 := some (.int 0)) (h1' := mk M 15) (h2' := mk M 15) (pc' := 9) (st1 := [.int 1]) (st2 := [.int 0]) rfl rfl rfl rfl rfl rfl ((tc_isDigit (b := 40))) (fun g1 => ?_) (fun g1 => ?_)
  · exact absurd g1 (by decide)
  · refine R_go 3 (pc' := 20) (L' := [some (.ref 48), some (.int (nI op)), some (.int 40), none, none]) (st' := [.int 40, .ref 48]) (h' := mk M 15) (fun _ => rfl) ?_
    refine R_callD (i := .invokevirtual 70) (kd := 0) (y := M_X2_nameOf) (as := [.ref 48, .int 40]) (r := []) (L0 := [some (.ref 48), some (.int 40)]) (v := some (.int (tp_nm u 40))) (h' := mk M 15) (pc' := 23) (st' := [.int (tp_nm u 40)]) rfl rfl rfl rfl rfl rfl (tc_nameOf hx u1) ?_
    refine R_top (y := -1) tp_nm_40 ?_
    refine R_if 6 (c := 5 ≤ (nI op)) (t := 69) (f := 57) (L' := [some (.ref 48), some (.int (nI op)), some (.int 40), some (.int (-1)), none]) (st' := []) (h' := mk M 15) (fun _ => rfl) (fun g2 => ?_) (fun g2 => ?_)
    · replace g2 : 5 ≤ op := (nI_leI (a := 5) (b := op) (by omega) (by omega)).mp g2
      omega
    · replace g2 : ¬ 5 ≤ op := fun q => g2 ((nI_leI (a := 5) (b := op) (by omega) (by omega)).mpr q)
      refine R_go 9 (pc' := 76) (L' := [some (.ref 48), some (.int (nI op)), some (.int 40), some (.int (-1)), none]) (st' := [.int (M 45 4), .ref 48]) (h' := mk M 15) (fun _ => rfl) ?_
      refine R_top (y := nI s.1) (hx.1) ?_
      refine R_go 2 (pc' := 78) (L' := [some (.ref 48), some (.int (nI op)), some (.int 40), some (.int (-1)), none]) (st' := [.int (nI s.1 + 1), .ref 48]) (h' := mk M 15) (fun _ => rfl) ?_
      refine R_top (nI_add s.1 1) ?_
      refine R_go 9 (pc' := 116) (L' := [some (.ref 48), some (.int (nI op)), some (.int 40), some (.int (-1)), none]) (st' := [.int (nI op + 1), .int 0, .ref 48]) (h' := mk (up M 45 4 (nI (s.1 + 1))) 15) (fun _ => rfl) ?_
      refine R_top (nI_add op 1) ?_
      refine R_callE (i := .invokevirtual 44) (kd := 0) (y := M_X2_readLevel) (as := [.ref 48, .int 0, .int (nI (op + 1))]) (r := []) (L0 := [some (.ref 48), some (.int 0), some (.int (nI (op + 1))), none, none]) (v := fun M1 => some (.int 0)) (h' := fun M1 => mk M1 15) (pc' := 119) (st' := fun M1 => [.int 0]) rfl rfl rfl rfl rfl rfl (hsub) (fun M1 g3 => ?_)
      have hx1 := g3
      refine R_ret 3 (pcr := 132) (v := some (.int 0)) (h' := mk M1 15) (fun _ => rfl) ?_
      exact k1 M1 hx1
set_option maxRecDepth 100000 in
set_option maxHeartbeats 4000000 in
theorem tc_pt_par_g {ro : xRO} {d : Nat} {M : xM} {T : Nat} {Q : Option Value → xH → Prop} {f : Nat → Int32} {L u : Nat} {Mb : xM} {s : tpS} (hx : tpX f L u Mb s M) (hle : s.1 ≤ L) (h60 : L ≤ 60) (hb : tp_lk f L s.1 = 40) (u1 : u ≤ 1) {op : Nat} (o5 : op < 5) {s1 : tpS} (hsub : Rn ro (d + 3) M_X2_readLevel 0 [some (.ref 48), some (.int 0), some (.int (nI (op + 1))), none, none] [] (mk (up M 45 4 (nI (s.1 + 1))) 15) (fun rr h => ∃ M1, tpX f L u Mb (s1) M1 ∧ rr = some (.int 1) ∧ h = mk M1 15)) (hle1 : s1.1 ≤ L) (hc : tp_lk f L s1.1 = 41) (k1 : ∀ M1, tpX f L u Mb (s1) M1 → Q (some (.int 1)) (mk (up M1 45 4 (nI (s1.1 + 1))) 15)) : Rn ro (d + 4) M_X2_readPart 0 [some (.ref 48), some (.int (nI op)), none, none, none] [] (mk M 15) Q := by
  refine R_go 1 (pc' := 1) (L' := [some (.ref 48), some (.int (nI op)), none, none, none]) (st' := [.ref 48]) (h' := mk M 15) (fun _ => rfl) ?_
  refine R_callD (i := .invokevirtual 52) (kd := 0) (y := M_X2_next) (as := [.ref 48]) (r := []) (L0 := [some (.ref 48)]) (v := some (.int (tp_lk f L s.1))) (h' := mk M 15) (pc' := 4) (st' := [.int (tp_lk f L s.1)]) rfl rfl rfl rfl rfl rfl (tc_next hx hle h60) ?_
  refine R_top (y := 40) hb ?_
  refine R_go 2 (pc' := 6) (L' := [some (.ref 48), some (.int (nI op)), some (.int 40), none, none]) (st' := [.int 40]) (h' := mk M 15) (fun _ => rfl) ?_
  refine R_call2 (i := .invokestatic 64) (kd := 1) (y := M_X2_isDigit) (as := [.int 40]) (r := []) (L0 := [some (.int 40)]) (v1 := some (.int 1)) (v2 := some (.int 0)) (h1' := mk M 15) (h2' := mk M 15) (pc' := 9) (st1 := [.int 1]) (st2 := [.int 0]) rfl rfl rfl rfl rfl rfl ((tc_isDigit (b := 40))) (fun g1 => ?_) (fun g1 => ?_)
  · exact absurd g1 (by decide)
  · refine R_go 3 (pc' := 20) (L' := [some (.ref 48), some (.int (nI op)), some (.int 40), none, none]) (st' := [.int 40, .ref 48]) (h' := mk M 15) (fun _ => rfl) ?_
    refine R_callD (i := .invokevirtual 70) (kd := 0) (y := M_X2_nameOf) (as := [.ref 48, .int 40]) (r := []) (L0 := [some (.ref 48), some (.int 40)]) (v := some (.int (tp_nm u 40))) (h' := mk M 15) (pc' := 23) (st' := [.int (tp_nm u 40)]) rfl rfl rfl rfl rfl rfl (tc_nameOf hx u1) ?_
    refine R_top (y := -1) tp_nm_40 ?_
    refine R_if 6 (c := 5 ≤ (nI op)) (t := 69) (f := 57) (L' := [some (.ref 48), some (.int (nI op)), some (.int 40), some (.int (-1)), none]) (st' := []) (h' := mk M 15) (fun _ => rfl) (fun g2 => ?_) (fun g2 => ?_)
    · replace g2 : 5 ≤ op := (nI_leI (a := 5) (b := op) (by omega) (by omega)).mp g2
      omega
    · replace g2 : ¬ 5 ≤ op := fun q => g2 ((nI_leI (a := 5) (b := op) (by omega) (by omega)).mpr q)
      refine R_go 9 (pc' := 76) (L' := [some (.ref 48), some (.int (nI op)), some (.int 40), some (.int (-1)), none]) (st' := [.int (M 45 4), .ref 48]) (h' := mk M 15) (fun _ => rfl) ?_
      refine R_top (y := nI s.1) (hx.1) ?_
      refine R_go 2 (pc' := 78) (L' := [some (.ref 48), some (.int (nI op)), some (.int 40), some (.int (-1)), none]) (st' := [.int (nI s.1 + 1), .ref 48]) (h' := mk M 15) (fun _ => rfl) ?_
      refine R_top (nI_add s.1 1) ?_
      refine R_go 9 (pc' := 116) (L' := [some (.ref 48), some (.int (nI op)), some (.int 40), some (.int (-1)), none]) (st' := [.int (nI op + 1), .int 0, .ref 48]) (h' := mk (up M 45 4 (nI (s.1 + 1))) 15) (fun _ => rfl) ?_
      refine R_top (nI_add op 1) ?_
      refine R_callE (i := .invokevirtual 44) (kd := 0) (y := M_X2_readLevel) (as := [.ref 48, .int 0, .int (nI (op + 1))]) (r := []) (L0 := [some (.ref 48), some (.int 0), some (.int (nI (op + 1))), none, none]) (v := fun M1 => some (.int 1)) (h' := fun M1 => mk M1 15) (pc' := 119) (st' := fun M1 => [.int 1]) rfl rfl rfl rfl rfl rfl (hsub) (fun M1 g3 => ?_)
      have hx1 := g3
      refine R_go 2 (pc' := 123) (L' := [some (.ref 48), some (.int (nI op)), some (.int 40), some (.int (-1)), none]) (st' := [.ref 48]) (h' := mk M1 15) (fun _ => rfl) ?_
      refine R_callD (i := .invokevirtual 52) (kd := 0) (y := M_X2_next) (as := [.ref 48]) (r := []) (L0 := [some (.ref 48)]) (v := some (.int (tp_lk f L s1.1))) (h' := mk M1 15) (pc' := 126) (st' := [.int (tp_lk f L s1.1)]) rfl rfl rfl rfl rfl rfl (tc_next hx1 hle1 h60) ?_
      refine R_top (y := 41) hc ?_
      refine R_go 5 (pc' := 138) (L' := [some (.ref 48), some (.int (nI op)), some (.int 40), some (.int (-1)), none]) (st' := [.int (M1 45 4), .ref 48]) (h' := mk M1 15) (fun _ => rfl) ?_
      refine R_top (y := nI s1.1) (hx1.1) ?_
      refine R_go 2 (pc' := 140) (L' := [some (.ref 48), some (.int (nI op)), some (.int 40), some (.int (-1)), none]) (st' := [.int (nI s1.1 + 1), .ref 48]) (h' := mk M1 15) (fun _ => rfl) ?_
      refine R_top (nI_add s1.1 1) ?_
      refine R_ret 3 (pcr := 144) (v := some (.int 1)) (h' := mk (up M1 45 4 (nI (s1.1 + 1))) 15) (fun _ => rfl) ?_
      exact k1 M1 hx1
set_option maxRecDepth 100000 in
set_option maxHeartbeats 4000000 in
theorem tc_pt_par_n {ro : xRO} {d : Nat} {M : xM} {T : Nat} {Q : Option Value → xH → Prop} {f : Nat → Int32} {L u : Nat} {Mb : xM} {s : tpS} (hx : tpX f L u Mb s M) (hle : s.1 ≤ L) (h60 : L ≤ 60) (hb : tp_lk f L s.1 = 40) (u1 : u ≤ 1) {op : Nat} (o5 : op < 5) {s1 : tpS} (hsub : Rn ro (d + 3) M_X2_readLevel 0 [some (.ref 48), some (.int 0), some (.int (nI (op + 1))), none, none] [] (mk (up M 45 4 (nI (s.1 + 1))) 15) (fun rr h => ∃ M1, tpX f L u Mb (s1) M1 ∧ rr = some (.int 1) ∧ h = mk M1 15)) (hle1 : s1.1 ≤ L) (hc : ¬ tp_lk f L s1.1 = 41) (k1 : ∀ M1, tpX f L u Mb (s1) M1 → Q (some (.int 0)) (mk M1 15)) : Rn ro (d + 4) M_X2_readPart 0 [some (.ref 48), some (.int (nI op)), none, none, none] [] (mk M 15) Q := by
  refine R_go 1 (pc' := 1) (L' := [some (.ref 48), some (.int (nI op)), none, none, none]) (st' := [.ref 48]) (h' := mk M 15) (fun _ => rfl) ?_
  refine R_callD (i := .invokevirtual 52) (kd := 0) (y := M_X2_next) (as := [.ref 48]) (r := []) (L0 := [some (.ref 48)]) (v := some (.int (tp_lk f L s.1))) (h' := mk M 15) (pc' := 4) (st' := [.int (tp_lk f L s.1)]) rfl rfl rfl rfl rfl rfl (tc_next hx hle h60) ?_
  refine R_top (y := 40) hb ?_
  refine R_go 2 (pc' := 6) (L' := [some (.ref 48), some (.int (nI op)), some (.int 40), none, none]) (st' := [.int 40]) (h' := mk M 15) (fun _ => rfl) ?_
  refine R_call2 (i := .invokestatic 64) (kd := 1) (y := M_X2_isDigit) (as := [.int 40]) (r := []) (L0 := [some (.int 40)]) (v1 := some (.int 1)) (v2 := some (.int 0)) (h1' := mk M 15) (h2' := mk M 15) (pc' := 9) (st1 := [.int 1]) (st2 := [.int 0]) rfl rfl rfl rfl rfl rfl ((tc_isDigit (b := 40))) (fun g1 => ?_) (fun g1 => ?_)
  · exact absurd g1 (by decide)
  · refine R_go 3 (pc' := 20) (L' := [some (.ref 48), some (.int (nI op)), some (.int 40), none, none]) (st' := [.int 40, .ref 48]) (h' := mk M 15) (fun _ => rfl) ?_
    refine R_callD (i := .invokevirtual 70) (kd := 0) (y := M_X2_nameOf) (as := [.ref 48, .int 40]) (r := []) (L0 := [some (.ref 48), some (.int 40)]) (v := some (.int (tp_nm u 40))) (h' := mk M 15) (pc' := 23) (st' := [.int (tp_nm u 40)]) rfl rfl rfl rfl rfl rfl (tc_nameOf hx u1) ?_
    refine R_top (y := -1) tp_nm_40 ?_
    refine R_if 6 (c := 5 ≤ (nI op)) (t := 69) (f := 57) (L' := [some (.ref 48), some (.int (nI op)), some (.int 40), some (.int (-1)), none]) (st' := []) (h' := mk M 15) (fun _ => rfl) (fun g2 => ?_) (fun g2 => ?_)
    · replace g2 : 5 ≤ op := (nI_leI (a := 5) (b := op) (by omega) (by omega)).mp g2
      omega
    · replace g2 : ¬ 5 ≤ op := fun q => g2 ((nI_leI (a := 5) (b := op) (by omega) (by omega)).mpr q)
      refine R_go 9 (pc' := 76) (L' := [some (.ref 48), some (.int (nI op)), some (.int 40), some (.int (-1)), none]) (st' := [.int (M 45 4), .ref 48]) (h' := mk M 15) (fun _ => rfl) ?_
      refine R_top (y := nI s.1) (hx.1) ?_
      refine R_go 2 (pc' := 78) (L' := [some (.ref 48), some (.int (nI op)), some (.int 40), some (.int (-1)), none]) (st' := [.int (nI s.1 + 1), .ref 48]) (h' := mk M 15) (fun _ => rfl) ?_
      refine R_top (nI_add s.1 1) ?_
      refine R_go 9 (pc' := 116) (L' := [some (.ref 48), some (.int (nI op)), some (.int 40), some (.int (-1)), none]) (st' := [.int (nI op + 1), .int 0, .ref 48]) (h' := mk (up M 45 4 (nI (s.1 + 1))) 15) (fun _ => rfl) ?_
      refine R_top (nI_add op 1) ?_
      refine R_callE (i := .invokevirtual 44) (kd := 0) (y := M_X2_readLevel) (as := [.ref 48, .int 0, .int (nI (op + 1))]) (r := []) (L0 := [some (.ref 48), some (.int 0), some (.int (nI (op + 1))), none, none]) (v := fun M1 => some (.int 1)) (h' := fun M1 => mk M1 15) (pc' := 119) (st' := fun M1 => [.int 1]) rfl rfl rfl rfl rfl rfl (hsub) (fun M1 g3 => ?_)
      have hx1 := g3
      refine R_go 2 (pc' := 123) (L' := [some (.ref 48), some (.int (nI op)), some (.int 40), some (.int (-1)), none]) (st' := [.ref 48]) (h' := mk M1 15) (fun _ => rfl) ?_
      refine R_callD (i := .invokevirtual 52) (kd := 0) (y := M_X2_next) (as := [.ref 48]) (r := []) (L0 := [some (.ref 48)]) (v := some (.int (tp_lk f L s1.1))) (h' := mk M1 15) (pc' := 126) (st' := [.int (tp_lk f L s1.1)]) rfl rfl rfl rfl rfl rfl (tc_next hx1 hle1 h60) ?_
      refine R_if 2 (c := (tp_lk f L s1.1) = 41) (t := 133) (f := 131) (L' := [some (.ref 48), some (.int (nI op)), some (.int 40), some (.int (-1)), none]) (st' := []) (h' := mk M1 15) (fun _ => rfl) (fun g4 => ?_) (fun g4 => ?_)
      · exact absurd g4 (hc)
      · refine R_ret 2 (pcr := 132) (v := some (.int 0)) (h' := mk M1 15) (fun _ => rfl) ?_
        exact k1 M1 hx1
