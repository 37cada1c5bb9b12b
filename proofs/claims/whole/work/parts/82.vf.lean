/-! OPERATION text: the reader of the model, its parts -/
set_option maxRecDepth 100000 in
set_option maxHeartbeats 4000000 in
theorem tm_num_t {ro : xRO} {d : Nat} {M : xM} {T : Nat} {Q : Option Value → xH → Prop} {f : Nat → Int32} {L u o : Nat} {Mb : xM} {s : tpS} (hx : tpM f L u Mb o s M) (hle : s.1 ≤ L) (h60 : L ≤ 60) {b : Int32} (hb : tp_lk f L s.1 = b) (hd : 48 ≤ b ∧ b ≤ 57) {n : Nat} {v : Int32} (n4 : n < 4) (k1 : ∀ M', tpM f L u Mb (o) (tp_adv s) M' → Rn ro (d + 2) M_X8_number 4 [some (.ref 64), some (.int (10 * v + b - 48)), some (.int (nI (n + 1)))] [] (mk M' T) Q) : Rn ro (d + 2) M_X8_number 4 [some (.ref 64), some (.int v), some (.int (nI n))] [] (mk M T) Q := by
  refine R_if 3 (c := 4 ≤ (nI n)) (t := 52) (f := 9) (L' := [some (.ref 64), some (.int v), some (.int (nI n))]) (st' := []) (h' := mk M T) (fun _ => rfl) (fun g1 => ?_) (fun g1 => ?_)
  · replace g1 : 4 ≤ n := (nI_leI (a := 4) (b := n) (by omega) (by omega)).mp g1
    omega
  · replace g1 : ¬ 4 ≤ n := fun q => g1 ((nI_leI (a := 4) (b := n) (by omega) (by omega)).mpr q)
    refine R_go 1 (pc' := 10) (L' := [some (.ref 64), some (.int v), some (.int (nI n))]) (st' := [.ref 64]) (h' := mk M T) (fun _ => rfl) ?_
    refine R_callD (i := .invokevirtual 110) (kd := 0) (y := M_X8_look) (as := [.ref 64]) (r := []) (L0 := [some (.ref 64)]) (v := some (.int (tp_lk f L s.1))) (h' := mk M T) (pc' := 13) (st' := [.int (tp_lk f L s.1)]) rfl rfl rfl rfl rfl rfl (tm_look hx hle h60) ?_
    refine R_top (y := b) hb ?_
    refine R_go 2 (pc' := 17) (L' := [some (.ref 64), some (.int v), some (.int (nI n))]) (st' := [.int 57, .int 48, .int b]) (h' := mk M T) (fun _ => rfl) ?_
    refine R_call2 (i := .invokestatic 53) (kd := 1) (y := M_X8_in) (as := [.int b, .int 48, .int 57]) (r := []) (L0 := [some (.int b), some (.int 48), some (.int 57)]) (v1 := some (.int 1)) (v2 := some (.int 0)) (h1' := mk M T) (h2' := mk M T) (pc' := 20) (st1 := [.int 1]) (st2 := [.int 0]) rfl rfl rfl rfl rfl rfl (m_in) (fun g2 => ?_) (fun g2 => ?_)
    · refine R_go 5 (pc' := 28) (L' := [some (.ref 64), some (.int v), some (.int (nI n))]) (st' := [.ref 64, .int (10 * v)]) (h' := mk M T) (fun _ => rfl) ?_
      refine R_callD (i := .invokevirtual 110) (kd := 0) (y := M_X8_look) (as := [.ref 64]) (r := [.int (10 * v)]) (L0 := [some (.ref 64)]) (v := some (.int (tp_lk f L s.1))) (h' := mk M T) (pc' := 31) (st' := [.int (tp_lk f L s.1), .int (10 * v)]) rfl rfl rfl rfl rfl rfl (tm_look hx hle h60) ?_
      refine R_top (y := b) hb ?_
      refine R_go 7 (pc' := 41) (L' := [some (.ref 64), some (.int (((10 * v) + b) - 48)), some (.int (nI n))]) (st' := [.int (M 61 13), .ref 64]) (h' := mk M T) (fun _ => rfl) ?_
      refine R_top (y := nI s.1) (hx.1) ?_
      refine R_go 2 (pc' := 43) (L' := [some (.ref 64), some (.int (((10 * v) + b) - 48)), some (.int (nI n))]) (st' := [.int (nI s.1 + 1), .ref 64]) (h' := mk M T) (fun _ => rfl) ?_
      refine R_top (nI_add s.1 1) ?_
      refine R_go 2 (pc' := 49) (L' := [some (.ref 64), some (.int (((10 * v) + b) - 48)), some (.int ((nI n) + 1))]) (st' := []) (h' := mk (up M 61 13 (nI (s.1 + 1))) T) (fun _ => rfl) ?_
      rw [nI_1]
      refine R_go 1 (pc' := 4) (L' := [some (.ref 64), some (.int (((10 * v) + b) - 48)), some (.int (nI (n + 1)))]) (st' := []) (h' := mk (up M 61 13 (nI (s.1 + 1))) T) (fun _ => rfl) ?_
      exact k1 _ hx.adv
    · exact absurd (hd) g2
set_option maxRecDepth 100000 in
set_option maxHeartbeats 4000000 in
theorem tm_num_e {ro : xRO} {d : Nat} {M : xM} {T : Nat} {Q : Option Value → xH → Prop} {f : Nat → Int32} {L u o : Nat} {Mb : xM} {s : tpS} (hx : tpM f L u Mb o s M) (hle : s.1 ≤ L) (h60 : L ≤ 60) {b : Int32} (hb : tp_lk f L s.1 = b) (hd : ¬ (48 ≤ b ∧ b ≤ 57)) (hs : s.2.1 < 60) {n : Nat} {v : Int32} (n4 : n < 4) (n0 : 1 ≤ n) (k1 : ∀ M', tpM f L u Mb (o) (tp_psh s 1 v) M' → Q none (mk M' T)) : Rn ro (d + 2) M_X8_number 4 [some (.ref 64), some (.int v), some (.int (nI n))] [] (mk M T) Q := by
  refine R_if 3 (c := 4 ≤ (nI n)) (t := 52) (f := 9) (L' := [some (.ref 64), some (.int v), some (.int (nI n))]) (st' := []) (h' := mk M T) (fun _ => rfl) (fun g1 => ?_) (fun g1 => ?_)
  · replace g1 : 4 ≤ n := (nI_leI (a := 4) (b := n) (by omega) (by omega)).mp g1
    omega
  · replace g1 : ¬ 4 ≤ n := fun q => g1 ((nI_leI (a := 4) (b := n) (by omega) (by omega)).mpr q)
    refine R_go 1 (pc' := 10) (L' := [some (.ref 64), some (.int v), some (.int (nI n))]) (st' := [.ref 64]) (h' := mk M T) (fun _ => rfl) ?_
    refine R_callD (i := .invokevirtual 110) (kd := 0) (y := M_X8_look) (as := [.ref 64]) (r := []) (L0 := [some (.ref 64)]) (v := some (.int (tp_lk f L s.1))) (h' := mk M T) (pc' := 13) (st' := [.int (tp_lk f L s.1)]) rfl rfl rfl rfl rfl rfl (tm_look hx hle h60) ?_
    refine R_top (y := b) hb ?_
    refine R_go 2 (pc' := 17) (L' := [some (.ref 64), some (.int v), some (.int (nI n))]) (st' := [.int 57, .int 48, .int b]) (h' := mk M T) (fun _ => rfl) ?_
    refine R_call2 (i := .invokestatic 53) (kd := 1) (y := M_X8_in) (as := [.int b, .int 48, .int 57]) (r := []) (L0 := [some (.int b), some (.int 48), some (.int 57)]) (v1 := some (.int 1)) (v2 := some (.int 0)) (h1' := mk M T) (h2' := mk M T) (pc' := 20) (st1 := [.int 1]) (st2 := [.int 0]) rfl rfl rfl rfl rfl rfl (m_in) (fun g2 => ?_) (fun g2 => ?_)
    · exact absurd g2 (hd)
    · refine R_ifn 4 (c := (nI n) = 0) (t := 61) (f := 57) (L' := [some (.ref 64), some (.int v), some (.int (nI n))]) (st' := [.ref 64]) (h' := mk M T) (fun _ => rfl) (fun g3 => ?_) (fun g3 => ?_)
      · replace g3 : ¬ n = 0 := fun q => g3 ((nI_eq (a := n) (b := 0) (by omega) (by omega)).mpr q)
        refine R_go 5 (pc' := 68) (L' := [some (.ref 64), some (.int v), some (.int (nI n))]) (st' := [.int v, .int 1, .ref 64]) (h' := mk (up M 61 15 0) T) (fun _ => rfl) ?_
        refine R_callD (i := .invokevirtual 118) (kd := 0) (y := M_X8_step) (as := [.ref 64, .int 1, .int v]) (r := []) (L0 := [some (.ref 64), some (.int 1), some (.int v)]) (v := none) (h' := mk (up (up (up (up M 61 15 0) 68 s.2.1 1) 69 s.2.1 v) 61 12 (nI (s.2.1 + 1))) T) (pc' := 71) (st' := []) rfl rfl rfl rfl rfl rfl (tm_step (M := up M 61 15 0) (k := s.2.1) hx.2.1 (by omega)) ?_
        refine R_ret 1 (pcr := 71) (v := none) (h' := mk (up (up (up (up M 61 15 0) 68 s.2.1 1) 69 s.2.1 v) 61 12 (nI (s.2.1 + 1))) T) (fun _ => rfl) ?_
        exact k1 _ (hx.bad0.psh)
      · replace g3 : n = 0 := (nI_eq (a := n) (b := 0) (by omega) (by omega)).mp g3
        omega
set_option maxRecDepth 100000 in
set_option maxHeartbeats 4000000 in
theorem tm_num_4 {ro : xRO} {d : Nat} {M : xM} {T : Nat} {Q : Option Value → xH → Prop} {f : Nat → Int32} {L u o : Nat} {Mb : xM} {s : tpS} (hx : tpM f L u Mb o s M) (hle : s.1 ≤ L) (h60 : L ≤ 60) (hs : s.2.1 < 60) {v : Int32} (k1 : ∀ M', tpM f L u Mb (o) (tp_psh s 1 v) M' → Q none (mk M' T)) : Rn ro (d + 2) M_X8_number 4 [some (.ref 64), some (.int v), some (.int 4)] [] (mk M T) Q := by
  refine R_go 11 (pc' := 68) (L' := [some (.ref 64), some (.int v), some (.int 4)]) (st' := [.int v, .int 1, .ref 64]) (h' := mk (up M 61 15 0) T) (fun _ => rfl) ?_
  refine R_callD (i := .invokevirtual 118) (kd := 0) (y := M_X8_step) (as := [.ref 64, .int 1, .int v]) (r := []) (L0 := [some (.ref 64), some (.int 1), some (.int v)]) (v := none) (h' := mk (up (up (up (up M 61 15 0) 68 s.2.1 1) 69 s.2.1 v) 61 12 (nI (s.2.1 + 1))) T) (pc' := 71) (st' := []) rfl rfl rfl rfl rfl rfl (tm_step (M := up M 61 15 0) (k := s.2.1) hx.2.1 (by omega)) ?_
  refine R_ret 1 (pcr := 71) (v := none) (h' := mk (up (up (up (up M 61 15 0) 68 s.2.1 1) 69 s.2.1 v) 61 12 (nI (s.2.1 + 1))) T) (fun _ => rfl) ?_
  exact k1 _ (hx.bad0.psh)
set_option maxRecDepth 100000 in
set_option maxHeartbeats 4000000 in
theorem tm_num_0 {ro : xRO} {d : Nat} {M : xM} {T : Nat} {Q : Option Value → xH → Prop} {f : Nat → Int32} {L u o : Nat} {Mb : xM} {s : tpS} (hx : tpM f L u Mb o s M) (hle : s.1 ≤ L) (h60 : L ≤ 60) {b : Int32} (hb : tp_lk f L s.1 = b) (hd : ¬ (48 ≤ b ∧ b ≤ 57)) (hs : s.2.1 ≤ 60) (k1 : ∀ M', tpN L Mb (s.1) M' → Q none (mk M' T)) : Rn ro (d + 2) M_X8_number 0 [some (.ref 64), none, none] [] (mk M T) Q := by
  refine R_go 8 (pc' := 10) (L' := [some (.ref 64), some (.int 0), some (.int 0)]) (st' := [.ref 64]) (h' := mk M T) (fun _ => rfl) ?_
  refine R_callD (i := .invokevirtual 110) (kd := 0) (y := M_X8_look) (as := [.ref 64]) (r := []) (L0 := [some (.ref 64)]) (v := some (.int (tp_lk f L s.1))) (h' := mk M T) (pc' := 13) (st' := [.int (tp_lk f L s.1)]) rfl rfl rfl rfl rfl rfl (tm_look hx hle h60) ?_
  refine R_top (y := b) hb ?_
  refine R_go 2 (pc' := 17) (L' := [some (.ref 64), some (.int 0), some (.int 0)]) (st' := [.int 57, .int 48, .int b]) (h' := mk M T) (fun _ => rfl) ?_
  refine R_call2 (i := .invokestatic 53) (kd := 1) (y := M_X8_in) (as := [.int b, .int 48, .int 57]) (r := []) (L0 := [some (.int b), some (.int 48), some (.int 57)]) (v1 := some (.int 1)) (v2 := some (.int 0)) (h1' := mk M T) (h2' := mk M T) (pc' := 20) (st1 := [.int 1]) (st2 := [.int 0]) rfl rfl rfl rfl rfl rfl (m_in) (fun g1 => ?_) (fun g1 => ?_)
  · exact absurd g1 (hd)
  · refine R_go 10 (pc' := 68) (L' := [some (.ref 64), some (.int 0), some (.int 0)]) (st' := [.int 0, .int 1, .ref 64]) (h' := mk (up M 61 15 1) T) (fun _ => rfl) ?_
    refine R_callE (i := .invokevirtual 118) (kd := 0) (y := M_X8_step) (as := [.ref 64, .int 1, .int 0]) (r := []) (L0 := [some (.ref 64), some (.int 1), some (.int 0)]) (v := fun M2 => none) (h' := fun M2 => mk M2 T) (pc' := 71) (st' := fun M2 => []) rfl rfl rfl rfl rfl rfl (tm_stepN (hx.flt hs)) (fun M2 g2 => ?_)
    have hx2 := g2
    refine R_ret 1 (pcr := 71) (v := none) (h' := mk M2 T) (fun _ => rfl) ?_
    exact k1 _ hx2
theorem tm_num_all {ro : xRO} {d T : Nat} {f : Nat → Int32} {L u o : Nat} {Mb : xM} (h60 : L ≤ 60) : ∀ (r n : Nat) (v : Int32) (s : tpS) (M : xM), n + r = 4 → 1 ≤ n → tpM f L u Mb o s M → s.1 ≤ L → s.2.1 < 60 → Rn ro (d + 2) M_X8_number 4 [some (.ref 64), some (.int v), some (.int (nI n))] [] (mk M T) (fun rr h => ∃ M', tpM f L u Mb o (tp_psh ((tp_num f L r s.1 v).1, s.2) 1 (tp_num f L r s.1 v).2) M' ∧ rr = none ∧ h = mk M' T) := by
  intro r
  induction r with
  | zero =>
    intro n v s M hn n1 hx hle hs
    obtain rfl : n = 4 := by omega
    exact tm_num_4 hx hle h60 hs (fun M' h => ⟨M', h, rfl, rfl⟩)
  | succ r ih =>
    intro n v s M hn n1 hx hle hs
    by_cases hd : 48 ≤ tp_lk f L s.1 ∧ tp_lk f L s.1 ≤ 57
    · have e : tp_num f L (r + 1) s.1 v = tp_num f L r (s.1 + 1) (10 * v + tp_lk f L s.1 - 48) := by
        conv => lhs; unfold tp_num
        rw [if_pos hd, Int32.mul_comm]
      rw [e]
      exact tm_num_t hx hle h60 rfl hd (by omega) (fun M' h => ih (n + 1) _ (tp_adv s) M' (by omega) (by omega) h (tp_dg_lt hd) hs)
    · have e : tp_num f L (r + 1) s.1 v = (s.1, v) := by
        unfold tp_num
        rw [if_neg hd]
      rw [e]
      exact tm_num_e hx hle h60 rfl hd hs (by omega) n1 (fun M' h => ⟨M', h, rfl, rfl⟩)
theorem tm_number {ro : xRO} {d T : Nat} {f : Nat → Int32} {L u o : Nat} {Mb M : xM} {s : tpS} (hx : tpM f L u Mb o s M) (hle : s.1 ≤ L) (h60 : L ≤ 60) (hs : s.2.1 < 60) (hd : 48 ≤ tp_lk f L s.1 ∧ tp_lk f L s.1 ≤ 57) : Rn ro (d + 2) M_X8_number 0 [some (.ref 64), none, none] [] (mk M T) (fun rr h => ∃ M', tpM f L u Mb o (tp_psh ((tp_num f L 4 s.1 0).1, s.2) 1 (tp_num f L 4 s.1 0).2) M' ∧ rr = none ∧ h = mk M' T) := by
  have e : tp_num f L 4 s.1 0 = tp_num f L 3 (s.1 + 1) (10 * 0 + tp_lk f L s.1 - 48) := by
    conv => lhs; unfold tp_num
    rw [if_pos hd, Int32.mul_comm]
  rw [e]
  refine R_go 4 (pc' := 4) (L' := [some (.ref 64), some (.int 0), some (.int (nI 0))]) (st' := []) (h' := mk M T) (fun _ => rfl) ?_
  exact tm_num_t hx hle h60 rfl hd (by omega) (fun M' h => tm_num_all h60 3 1 _ (tp_adv s) M' (by omega) (by omega) h (tp_dg_lt hd) hs)
set_option maxRecDepth 100000 in
set_option maxHeartbeats 4000000 in
theorem tm_on_nam {ro : xRO} {d : Nat} {M : xM} {T : Nat} {Q : Option Value → xH → Prop} {f : Nat → Int32} {L u o : Nat} {Mb : xM} {s : tpS} (hx : tpM f L u Mb o s M) (hle : s.1 ≤ L) (h60 : L ≤ 60) {b : Int32} (hb : tp_lk f L s.1 = b) (u1 : u ≤ 1) (hn : 0 ≤ tp_nm u b) (hs : s.2.1 < 60) (k1 : ∀ M', tpM f L u Mb (o) (tp_psh (tp_adv s) 2 (tp_nm u b)) M' → Q none (mk M' T)) : Rn ro (d + 4) M_X8_one 0 [some (.ref 64), none, none] [] (mk M T) Q := by
  refine R_go 1 (pc' := 1) (L' := [some (.ref 64), none, none]) (st' := [.ref 64]) (h' := mk M T) (fun _ => rfl) ?_
  refine R_callD (i := .invokevirtual 110) (kd := 0) (y := M_X8_look) (as := [.ref 64]) (r := []) (L0 := [some (.ref 64)]) (v := some (.int (tp_lk f L s.1))) (h' := mk M T) (pc' := 4) (st' := [.int (tp_lk f L s.1)]) rfl rfl rfl rfl rfl rfl (tm_look hx hle h60) ?_
  refine R_top (y := b) hb ?_
  refine R_go 3 (pc' := 7) (L' := [some (.ref 64), some (.int b), none]) (st' := [.int b, .ref 64]) (h' := mk M T) (fun _ => rfl) ?_
  refine R_callD (i := .invokevirtual 131) (kd := 0) (y := M_X8_nameOf) (as := [.ref 64, .int b]) (r := []) (L0 := [some (.ref 64), some (.int b)]) (v := some (.int (tp_nm u b))) (h' := mk M T) (pc' := 10) (st' := [.int (tp_nm u b)]) rfl rfl rfl rfl rfl rfl (tm_nameOf hx u1) ?_
  refine R_if 3 (c := (tp_nm u b) < 0) (t := 34) (f := 15) (L' := [some (.ref 64), some (.int b), some (.int (tp_nm u b))]) (st' := []) (h' := mk M T) (fun _ => rfl) (fun g1 => ?_) (fun g1 => ?_)
  · exact absurd g1 (tp_nlt hn)
  · refine R_go 3 (pc' := 20) (L' := [some (.ref 64), some (.int b), some (.int (tp_nm u b))]) (st' := [.int (M 61 13), .ref 64]) (h' := mk M T) (fun _ => rfl) ?_
    refine R_top (y := nI s.1) (hx.1) ?_
    refine R_go 2 (pc' := 22) (L' := [some (.ref 64), some (.int b), some (.int (tp_nm u b))]) (st' := [.int (nI s.1 + 1), .ref 64]) (h' := mk M T) (fun _ => rfl) ?_
    refine R_top (nI_add s.1 1) ?_
    refine R_go 4 (pc' := 28) (L' := [some (.ref 64), some (.int b), some (.int (tp_nm u b))]) (st' := [.int (tp_nm u b), .int 2, .ref 64]) (h' := mk (up M 61 13 (nI (s.1 + 1))) T) (fun _ => rfl) ?_
    refine R_callD (i := .invokevirtual 118) (kd := 0) (y := M_X8_step) (as := [.ref 64, .int 2, .int (tp_nm u b)]) (r := []) (L0 := [some (.ref 64), some (.int 2), some (.int (tp_nm u b))]) (v := none) (h' := mk (up (up (up (up M 61 13 (nI (s.1 + 1))) 68 s.2.1 2) 69 s.2.1 (tp_nm u b)) 61 12 (nI (s.2.1 + 1))) T) (pc' := 31) (st' := []) rfl rfl rfl rfl rfl rfl (tm_step (M := up M 61 13 (nI (s.1 + 1))) (k := s.2.1) hx.2.1 (by omega)) ?_
    refine R_ret 2 (pcr := 58) (v := none) (h' := mk (up (up (up (up M 61 13 (nI (s.1 + 1))) 68 s.2.1 2) 69 s.2.1 (tp_nm u b)) 61 12 (nI (s.2.1 + 1))) T) (fun _ => rfl) ?_
    exact k1 _ hx.adv.psh
set_option maxRecDepth 100000 in
set_option maxHeartbeats 4000000 in
theorem tm_on_num {ro : xRO} {d : Nat} {M : xM} {T : Nat} {Q : Option Value → xH → Prop} {f : Nat → Int32} {L u o : Nat} {Mb : xM} {s : tpS} (hx : tpM f L u Mb o s M) (hle : s.1 ≤ L) (h60 : L ≤ 60) {b : Int32} (hb : tp_lk f L s.1 = b) (u1 : u ≤ 1) (hn : tp_nm u b < 0) (n33 : ¬ b = 33) (n40 : ¬ b = 40) {A : xM → Prop} (hsub : Rn ro (d + 3) M_X8_number 0 [some (.ref 64), none, none] [] (mk M T) (fun rr h => ∃ M1, A M1 ∧ rr = none ∧ h = mk M1 T))  (k1 : ∀ M1, A M1 → Q none (mk M1 T)) : Rn ro (d + 4) M_X8_one 0 [some (.ref 64), none, none] [] (mk M T) Q := by
  refine R_go 1 (pc' := 1) (L' := [some (.ref 64), none, none]) (st' := [.ref 64]) (h' := mk M T) (fun _ => rfl) ?_
  refine R_callD (i := .invokevirtual 110) (kd := 0) (y := M_X8_look) (as := [.ref 64]) (r := []) (L0 := [some (.ref 64)]) (v := some (.int (tp_lk f L s.1))) (h' := mk M T) (pc' := 4) (st' := [.int (tp_lk f L s.1)]) rfl rfl rfl rfl rfl rfl (tm_look hx hle h60) ?_
  refine R_top (y := b) hb ?_
  refine R_go 3 (pc' := 7) (L' := [some (.ref 64), some (.int b), none]) (st' := [.int b, .ref 64]) (h' := mk M T) (fun _ => rfl) ?_
  refine R_callD (i := .invokevirtual 131) (kd := 0) (y := M_X8_nameOf) (as := [.ref 64, .int b]) (r := []) (L0 := [some (.ref 64), some (.int b)]) (v := some (.int (tp_nm u b))) (h' := mk M T) (pc' := 10) (st' := [.int (tp_nm u b)]) rfl rfl rfl rfl rfl rfl (tm_nameOf hx u1) ?_
  refine R_if 3 (c := (tp_nm u b) < 0) (t := 34) (f := 15) (L' := [some (.ref 64), some (.int b), some (.int (tp_nm u b))]) (st' := []) (h' := mk M T) (fun _ => rfl) (fun g1 => ?_) (fun g1 => ?_)
  · refine R_if 3 (c := b = 33) (t := 46) (f := 40) (L' := [some (.ref 64), some (.int b), some (.int (tp_nm u b))]) (st' := []) (h' := mk M T) (fun _ => rfl) (fun g2 => ?_) (fun g2 => ?_)
    · exact absurd g2 (n33)
    · refine R_ifn 3 (c := b = 40) (t := 54) (f := 46) (L' := [some (.ref 64), some (.int b), some (.int (tp_nm u b))]) (st' := []) (h' := mk M T) (fun _ => rfl) (fun g3 => ?_) (fun g3 => ?_)
      · refine R_go 1 (pc' := 55) (L' := [some (.ref 64), some (.int b), some (.int (tp_nm u b))]) (st' := [.ref 64]) (h' := mk M T) (fun _ => rfl) ?_
        refine R_callE (i := .invokevirtual 138) (kd := 0) (y := M_X8_number) (as := [.ref 64]) (r := []) (L0 := [some (.ref 64), none, none]) (v := fun M1 => none) (h' := fun M1 => mk M1 T) (pc' := 58) (st' := fun M1 => []) rfl rfl rfl rfl rfl rfl (hsub) (fun M1 g4 => ?_)
        have hx1 := g4
        refine R_ret 1 (pcr := 58) (v := none) (h' := mk M1 T) (fun _ => rfl) ?_
        exact k1 _ hx1
      · exact absurd g3 (n40)
  · exact absurd (hn) g1
set_option maxRecDepth 100000 in
set_option maxHeartbeats 4000000 in
theorem tm_on_33 {ro : xRO} {d : Nat} {M : xM} {T : Nat} {Q : Option Value → xH → Prop} {f : Nat → Int32} {L u o : Nat} {Mb : xM} {s : tpS} (hx : tpM f L u Mb o s M) (hle : s.1 ≤ L) (h60 : L ≤ 60) (hb : tp_lk f L s.1 = 33) (u1 : u ≤ 1) {A : xM → Prop} (hsub : Rn ro (d + 3) M_X8_opens 0 [some (.ref 64), some (.int 33)] [] (mk M T) (fun rr h => ∃ M1, A M1 ∧ rr = none ∧ h = mk M1 T))  (k1 : ∀ M1, A M1 → Q none (mk M1 T)) : Rn ro (d + 4) M_X8_one 0 [some (.ref 64), none, none] [] (mk M T) Q := by
  refine R_go 1 (pc' := 1) (L' := [some (.ref 64), none, none]) (st' := [.ref 64]) (h' := mk M T) (fun _ => rfl) ?_
  refine R_callD (i := .invokevirtual 110) (kd := 0) (y := M_X8_look) (as := [.ref 64]) (r := []) (L0 := [some (.ref 64)]) (v := some (.int (tp_lk f L s.1))) (h' := mk M T) (pc' := 4) (st' := [.int (tp_lk f L s.1)]) rfl rfl rfl rfl rfl rfl (tm_look hx hle h60) ?_
  refine R_top (y := 33) hb ?_
  refine R_go 3 (pc' := 7) (L' := [some (.ref 64), some (.int 33), none]) (st' := [.int 33, .ref 64]) (h' := mk M T) (fun _ => rfl) ?_
  refine R_callD (i := .invokevirtual 131) (kd := 0) (y := M_X8_nameOf) (as := [.ref 64, .int 33]) (r := []) (L0 := [some (.ref 64), some (.int 33)]) (v := some (.int (tp_nm u 33))) (h' := mk M T) (pc' := 10) (st' := [.int (tp_nm u 33)]) rfl rfl rfl rfl rfl rfl (tm_nameOf hx u1) ?_
  refine R_top (y := -1) tp_nm_33 ?_
  refine R_go 8 (pc' := 48) (L' := [some (.ref 64), some (.int 33), some (.int (-1))]) (st' := [.int 33, .ref 64]) (h' := mk M T) (fun _ => rfl) ?_
  refine R_callE (i := .invokevirtual 134) (kd := 0) (y := M_X8_opens) (as := [.ref 64, .int 33]) (r := []) (L0 := [some (.ref 64), some (.int 33)]) (v := fun M1 => none) (h' := fun M1 => mk M1 T) (pc' := 51) (st' := fun M1 => []) rfl rfl rfl rfl rfl rfl (hsub) (fun M1 g1 => ?_)
  have hx1 := g1
  refine R_ret 2 (pcr := 58) (v := none) (h' := mk M1 T) (fun _ => rfl) ?_
  exact k1 _ hx1
set_option maxRecDepth 100000 in
set_option maxHeartbeats 4000000 in
theorem tm_on_40 {ro : xRO} {d : Nat} {M : xM} {T : Nat} {Q : Option Value → xH → Prop} {f : Nat → Int32} {L u o : Nat} {Mb : xM} {s : tpS} (hx : tpM f L u Mb o s M) (hle : s.1 ≤ L) (h60 : L ≤ 60) (hb : tp_lk f L s.1 = 40) (u1 : u ≤ 1) {A : xM → Prop} (hsub : Rn ro (d + 3) M_X8_opens 0 [some (.ref 64), some (.int 40)] [] (mk M T) (fun rr h => ∃ M1, A M1 ∧ rr = none ∧ h = mk M1 T))  (k1 : ∀ M1, A M1 → Q none (mk M1 T)) : Rn ro (d + 4) M_X8_one 0 [some (.ref 64), none, none] [] (mk M T) Q := by
  refine R_go 1 (pc' := 1) (L' := [some (.ref 64), none, none]) (st' := [.ref 64]) (h' := mk M T) (fun _ => rfl) ?_
  refine R_callD (i := .invokevirtual 110) (kd := 0) (y := M_X8_look) (as := [.ref 64]) (r := []) (L0 := [some (.ref 64)]) (v := some (.int (tp_lk f L s.1))) (h' := mk M T) (pc' := 4) (st' := [.int (tp_lk f L s.1)]) rfl rfl rfl rfl rfl rfl (tm_look hx hle h60) ?_
  refine R_top (y := 40) hb ?_
  refine R_go 3 (pc' := 7) (L' := [some (.ref 64), some (.int 40), none]) (st' := [.int 40, .ref 64]) (h' := mk M T) (fun _ => rfl) ?_
  refine R_callD (i := .invokevirtual 131) (kd := 0) (y := M_X8_nameOf) (as := [.ref 64, .int 40]) (r := []) (L0 := [some (.ref 64), some (.int 40)]) (v := some (.int (tp_nm u 40))) (h' := mk M T) (pc' := 10) (st' := [.int (tp_nm u 40)]) rfl rfl rfl rfl rfl rfl (tm_nameOf hx u1) ?_
  refine R_top (y := -1) tp_nm_40 ?_
  refine R_go 11 (pc' := 48) (L' := [some (.ref 64), some (.int 40), some (.int (-1))]) (st' := [.int 40, .ref 64]) (h' := mk M T) (fun _ => rfl) ?_
  refine R_callE (i := .invokevirtual 134) (kd := 0) (y := M_X8_opens) (as := [.ref 64, .int 40]) (r := []) (L0 := [some (.ref 64), some (.int 40)]) (v := fun M1 => none) (h' := fun M1 => mk M1 T) (pc' := 51) (st' := fun M1 => []) rfl rfl rfl rfl rfl rfl (hsub) (fun M1 g1 => ?_)
  have hx1 := g1
  refine R_ret 2 (pcr := 58) (v := none) (h' := mk M1 T) (fun _ => rfl) ?_
  exact k1 _ hx1
set_option maxRecDepth 100000 in
set_option maxHeartbeats 4000000 in
theorem tm_op_5 {ro : xRO} {d : Nat} {M : xM} {T : Nat} {Q : Option Value → xH → Prop} {f : Nat → Int32} {L u : Nat} {Mb : xM} {s : tpS} (hx : tpM f L u Mb 5 s M) (hs : s.2.1 ≤ 60) {b : Int32} (k1 : ∀ M', tpN L Mb (s.1) M' → Q none (mk M' T)) : Rn ro (d + 4) M_X8_opens 0 [some (.ref 64), some (.int b)] [] (mk M T) Q := by
  refine R_go 2 (pc' := 4) (L' := [some (.ref 64), some (.int b)]) (st' := [.int (M 61 14)]) (h' := mk M T) (fun _ => rfl) ?_
  refine R_top (y := 5) (hx.2.2.2.1.1) ?_
  refine R_ret 6 (pcr := 13) (v := none) (h' := mk (up M 61 15 1) T) (fun _ => rfl) ?_
  exact k1 _ (hx.flt hs)
set_option maxRecDepth 100000 in
set_option maxHeartbeats 4000000 in
theorem tm_op_not_g {ro : xRO} {d : Nat} {M : xM} {T : Nat} {Q : Option Value → xH → Prop} {f : Nat → Int32} {L u o : Nat} {Mb : xM} {s : tpS} (hx : tpM f L u Mb o s M) (hle : s.1 ≤ L) (h60 : L ≤ 60) (o5 : o < 5) {s1 : tpS} (hsub : Rn ro (d + 3) M_X8_one 0 [some (.ref 64), none, none] [] (mk (up (up M 61 14 (nI (o + 1))) 61 13 (nI (s.1 + 1))) T) (fun rr h => ∃ M1, tpM f L u Mb (o + 1) (s1) M1 ∧ rr = none ∧ h = mk M1 T)) (hs : s1.2.1 < 60) (k1 : ∀ M', tpM f L u Mb (o) (tp_psh s1 3 0) M' → Q none (mk M' T)) : Rn ro (d + 4) M_X8_opens 0 [some (.ref 64), some (.int 33)] [] (mk M T) Q := by
  refine R_go 2 (pc' := 4) (L' := [some (.ref 64), some (.int 33)]) (st' := [.int (M 61 14)]) (h' := mk M T) (fun _ => rfl) ?_
  refine R_top (y := nI o) (hx.2.2.2.1.1) ?_
  refine R_ifn 2 (c := (nI o) = 5) (t := 14) (f := 8) (L' := [some (.ref 64), some (.int 33)]) (st' := []) (h' := mk M T) (fun _ => rfl) (fun g1 => ?_) (fun g1 => ?_)
  · replace g1 : ¬ o = 5 := fun q => g1 ((nI_eq (a := o) (b := 5) (by omega) (by omega)).mpr q)
    refine R_go 3 (pc' := 19) (L' := [some (.ref 64), some (.int 33)]) (st' := [.int (M 61 14), .ref 64]) (h' := mk M T) (fun _ => rfl) ?_
    refine R_top (y := nI o) (hx.2.2.2.1.1) ?_
    refine R_go 2 (pc' := 21) (L' := [some (.ref 64), some (.int 33)]) (st' := [.int (nI o + 1), .ref 64]) (h' := mk M T) (fun _ => rfl) ?_
    refine R_top (nI_add o 1) ?_
    refine R_go 4 (pc' := 29) (L' := [some (.ref 64), some (.int 33)]) (st' := [.int ((up M 61 14 (nI (o + 1))) 61 13), .ref 64]) (h' := mk (up M 61 14 (nI (o + 1))) T) (fun _ => rfl) ?_
    refine R_top (y := nI s.1) (hx.1) ?_
    refine R_go 2 (pc' := 31) (L' := [some (.ref 64), some (.int 33)]) (st' := [.int (nI s.1 + 1), .ref 64]) (h' := mk (up M 61 14 (nI (o + 1))) T) (fun _ => rfl) ?_
    refine R_top (nI_add s.1 1) ?_
    refine R_go 5 (pc' := 41) (L' := [some (.ref 64), some (.int 33)]) (st' := [.ref 64]) (h' := mk (up (up M 61 14 (nI (o + 1))) 61 13 (nI (s.1 + 1))) T) (fun _ => rfl) ?_
    refine R_callE (i := .invokevirtual 125) (kd := 0) (y := M_X8_one) (as := [.ref 64]) (r := []) (L0 := [some (.ref 64), none, none]) (v := fun M1 => none) (h' := fun M1 => mk M1 T) (pc' := 44) (st' := fun M1 => []) rfl rfl rfl rfl rfl rfl (hsub) (fun M1 g2 => ?_)
    have hx1 := g2
    refine R_go 3 (pc' := 47) (L' := [some (.ref 64), some (.int 33)]) (st' := [.int 0, .int 3, .ref 64]) (h' := mk M1 T) (fun _ => rfl) ?_
    refine R_callD (i := .invokevirtual 118) (kd := 0) (y := M_X8_step) (as := [.ref 64, .int 3, .int 0]) (r := []) (L0 := [some (.ref 64), some (.int 3), some (.int 0)]) (v := none) (h' := mk (up (up (up M1 68 s1.2.1 3) 69 s1.2.1 0) 61 12 (nI (s1.2.1 + 1))) T) (pc' := 50) (st' := []) rfl rfl rfl rfl rfl rfl (tm_step (M := M1) (k := s1.2.1) hx1.2.1 (by omega)) ?_
    refine R_go 4 (pc' := 108) (L' := [some (.ref 64), some (.int 33)]) (st' := [.int ((up (up (up M1 68 s1.2.1 3) 69 s1.2.1 0) 61 12 (nI (s1.2.1 + 1))) 61 14), .ref 64]) (h' := mk (up (up (up M1 68 s1.2.1 3) 69 s1.2.1 0) 61 12 (nI (s1.2.1 + 1))) T) (fun _ => rfl) ?_
    refine R_top (y := nI (o + 1)) (hx1.2.2.2.1.1) ?_
    refine R_go 2 (pc' := 110) (L' := [some (.ref 64), some (.int 33)]) (st' := [.int (nI (o + 1) - 1), .ref 64]) (h' := mk (up (up (up M1 68 s1.2.1 3) 69 s1.2.1 0) 61 12 (nI (s1.2.1 + 1))) T) (fun _ => rfl) ?_
    refine R_top (nI_pred o) ?_
    refine R_ret 2 (pcr := 113) (v := none) (h' := mk (up (up (up (up M1 68 s1.2.1 3) 69 s1.2.1 0) 61 12 (nI (s1.2.1 + 1))) 61 14 (nI o)) T) (fun _ => rfl) ?_
    exact k1 _ hx1.psh.opn
  · replace g1 : o = 5 := (nI_eq (a := o) (b := 5) (by omega) (by omega)).mp g1
    omega
set_option maxRecDepth 100000 in
set_option maxHeartbeats 4000000 in
theorem tm_op_not_f {ro : xRO} {d : Nat} {M : xM} {T : Nat} {Q : Option Value → xH → Prop} {f : Nat → Int32} {L u o : Nat} {Mb : xM} {s : tpS} (hx : tpM f L u Mb o s M) (hle : s.1 ≤ L) (h60 : L ≤ 60) (o5 : o < 5) {p : Nat} (hsub : Rn ro (d + 3) M_X8_one 0 [some (.ref 64), none, none] [] (mk (up (up M 61 14 (nI (o + 1))) 61 13 (nI (s.1 + 1))) T) (fun rr h => ∃ M1, tpN L Mb (p) M1 ∧ rr = none ∧ h = mk M1 T))  (k1 : ∀ M', tpN L Mb (p) M' → Q none (mk M' T)) : Rn ro (d + 4) M_X8_opens 0 [some (.ref 64), some (.int 33)] [] (mk M T) Q := by
  refine R_go 2 (pc' := 4) (L' := [some (.ref 64), some (.int 33)]) (st' := [.int (M 61 14)]) (h' := mk M T) (fun _ => rfl) ?_
  refine R_top (y := nI o) (hx.2.2.2.1.1) ?_
  refine R_ifn 2 (c := (nI o) = 5) (t := 14) (f := 8) (L' := [some (.ref 64), some (.int 33)]) (st' := []) (h' := mk M T) (fun _ => rfl) (fun g1 => ?_) (fun g1 => ?_)
  · replace g1 : ¬ o = 5 := fun q => g1 ((nI_eq (a := o) (b := 5) (by omega) (by omega)).mpr q)
    refine R_go 3 (pc' := 19) (L' := [some (.ref 64), some (.int 33)]) (st' := [.int (M 61 14), .ref 64]) (h' := mk M T) (fun _ => rfl) ?_
    refine R_top (y := nI o) (hx.2.2.2.1.1) ?_
    refine R_go 2 (pc' := 21) (L' := [some (.ref 64), some (.int 33)]) (st' := [.int (nI o + 1), .ref 64]) (h' := mk M T) (fun _ => rfl) ?_
    refine R_top (nI_add o 1) ?_
    refine R_go 4 (pc' := 29) (L' := [some (.ref 64), some (.int 33)]) (st' := [.int ((up M 61 14 (nI (o + 1))) 61 13), .ref 64]) (h' := mk (up M 61 14 (nI (o + 1))) T) (fun _ => rfl) ?_
    refine R_top (y := nI s.1) (hx.1) ?_
    refine R_go 2 (pc' := 31) (L' := [some (.ref 64), some (.int 33)]) (st' := [.int (nI s.1 + 1), .ref 64]) (h' := mk (up M 61 14 (nI (o + 1))) T) (fun _ => rfl) ?_
    refine R_top (nI_add s.1 1) ?_
    refine R_go 5 (pc' := 41) (L' := [some (.ref 64), some (.int 33)]) (st' := [.ref 64]) (h' := mk (up (up M 61 14 (nI (o + 1))) 61 13 (nI (s.1 + 1))) T) (fun _ => rfl) ?_
    refine R_callE (i := .invokevirtual 125) (kd := 0) (y := M_X8_one) (as := [.ref 64]) (r := []) (L0 := [some (.ref 64), none, none]) (v := fun M1 => none) (h' := fun M1 => mk M1 T) (pc' := 44) (st' := fun M1 => []) rfl rfl rfl rfl rfl rfl (hsub) (fun M1 g2 => ?_)
    have hx1 := g2
    refine R_go 3 (pc' := 47) (L' := [some (.ref 64), some (.int 33)]) (st' := [.int 0, .int 3, .ref 64]) (h' := mk M1 T) (fun _ => rfl) ?_
    refine R_callE (i := .invokevirtual 118) (kd := 0) (y := M_X8_step) (as := [.ref 64, .int 3, .int 0]) (r := []) (L0 := [some (.ref 64), some (.int 3), some (.int 0)]) (v := fun M2 => none) (h' := fun M2 => mk M2 T) (pc' := 50) (st' := fun M2 => []) rfl rfl rfl rfl rfl rfl (tm_stepN hx1) (fun M2 g3 => ?_)
    have hx2 := g3
    refine R_ret 8 (pcr := 113) (v := none) (h' := mk (up M2 61 14 ((M2 61 14) - 1)) T) (fun _ => rfl) ?_
    exact k1 _ hx2.opn
  · replace g1 : o = 5 := (nI_eq (a := o) (b := 5) (by omega) (by omega)).mp g1
    omega
set_option maxRecDepth 100000 in
set_option maxHeartbeats 4000000 in
theorem tm_op_par_f {ro : xRO} {d : Nat} {M : xM} {T : Nat} {Q : Option Value → xH → Prop} {f : Nat → Int32} {L u o : Nat} {Mb : xM} {s : tpS} (hx : tpM f L u Mb o s M) (hle : s.1 ≤ L) (h60 : L ≤ 60) (o5 : o < 5) {p : Nat} (hsub : Rn ro (d + 3) M_X8_any 0 [some (.ref 64)] [] (mk (up (up M 61 14 (nI (o + 1))) 61 13 (nI (s.1 + 1))) T) (fun rr h => ∃ M1, tpN L Mb (p) M1 ∧ rr = none ∧ h = mk M1 T))  (k1 : ∀ M', tpN L Mb (p) M' → Q none (mk M' T)) : Rn ro (d + 4) M_X8_opens 0 [some (.ref 64), some (.int 40)] [] (mk M T) Q := by
  refine R_go 2 (pc' := 4) (L' := [some (.ref 64), some (.int 40)]) (st' := [.int (M 61 14)]) (h' := mk M T) (fun _ => rfl) ?_
  refine R_top (y := nI o) (hx.2.2.2.1.1) ?_
  refine R_ifn 2 (c := (nI o) = 5) (t := 14) (f := 8) (L' := [some (.ref 64), some (.int 40)]) (st' := []) (h' := mk M T) (fun _ => rfl) (fun g1 => ?_) (fun g1 => ?_)
  · replace g1 : ¬ o = 5 := fun q => g1 ((nI_eq (a := o) (b := 5) (by omega) (by omega)).mpr q)
    refine R_go 3 (pc' := 19) (L' := [some (.ref 64), some (.int 40)]) (st' := [.int (M 61 14), .ref 64]) (h' := mk M T) (fun _ => rfl) ?_
    refine R_top (y := nI o) (hx.2.2.2.1.1) ?_
    refine R_go 2 (pc' := 21) (L' := [some (.ref 64), some (.int 40)]) (st' := [.int (nI o + 1), .ref 64]) (h' := mk M T) (fun _ => rfl) ?_
    refine R_top (nI_add o 1) ?_
    refine R_go 4 (pc' := 29) (L' := [some (.ref 64), some (.int 40)]) (st' := [.int ((up M 61 14 (nI (o + 1))) 61 13), .ref 64]) (h' := mk (up M 61 14 (nI (o + 1))) T) (fun _ => rfl) ?_
    refine R_top (y := nI s.1) (hx.1) ?_
    refine R_go 2 (pc' := 31) (L' := [some (.ref 64), some (.int 40)]) (st' := [.int (nI s.1 + 1), .ref 64]) (h' := mk (up M 61 14 (nI (o + 1))) T) (fun _ => rfl) ?_
    refine R_top (nI_add s.1 1) ?_
    refine R_go 5 (pc' := 54) (L' := [some (.ref 64), some (.int 40)]) (st' := [.ref 64]) (h' := mk (up (up M 61 14 (nI (o + 1))) 61 13 (nI (s.1 + 1))) T) (fun _ => rfl) ?_
    refine R_callE (i := .invokevirtual 128) (kd := 0) (y := M_X8_any) (as := [.ref 64]) (r := []) (L0 := [some (.ref 64)]) (v := fun M1 => none) (h' := fun M1 => mk M1 T) (pc' := 57) (st' := fun M1 => []) rfl rfl rfl rfl rfl rfl (hsub) (fun M1 g2 => ?_)
    have hx1 := g2
    refine R_go 3 (pc' := 62) (L' := [some (.ref 64), some (.int 40)]) (st' := [.int (M1 61 15), .ref 64]) (h' := mk M1 T) (fun _ => rfl) ?_
    refine R_top (y := 1) (hx1.2.2.1) ?_
    refine R_go 7 (pc' := 87) (L' := [some (.ref 64), some (.int 40)]) (st' := [.int ((up M1 61 15 1) 61 13), .ref 64]) (h' := mk (up M1 61 15 1) T) (fun _ => rfl) ?_
    refine R_top (y := nI p) (hx1.1) ?_
    refine R_go 2 (pc' := 91) (L' := [some (.ref 64), some (.int 40)]) (st' := [.int ((up M1 61 15 1) 61 15), .int (nI p), .ref 64]) (h' := mk (up M1 61 15 1) T) (fun _ => rfl) ?_
    refine R_top (y := 1) (rfl) ?_
    refine R_go 4 (pc' := 100) (L' := [some (.ref 64), some (.int 40)]) (st' := [.int (nI p + 0), .ref 64]) (h' := mk (up M1 61 15 1) T) (fun _ => rfl) ?_
    refine R_top (nI_add p 0) ?_
    refine R_ret 8 (pcr := 113) (v := none) (h' := mk (up (up (up M1 61 15 1) 61 13 (nI (p + 0))) 61 14 (((up (up M1 61 15 1) 61 13 (nI (p + 0))) 61 14) - 1)) T) (fun _ => rfl) ?_
    exact k1 _ (hx1.bad1.her rfl).opn
  · replace g1 : o = 5 := (nI_eq (a := o) (b := 5) (by omega) (by omega)).mp g1
    omega
set_option maxRecDepth 100000 in
set_option maxHeartbeats 4000000 in
theorem tm_op_par_g {ro : xRO} {d : Nat} {M : xM} {T : Nat} {Q : Option Value → xH → Prop} {f : Nat → Int32} {L u o : Nat} {Mb : xM} {s : tpS} (hx : tpM f L u Mb o s M) (hle : s.1 ≤ L) (h60 : L ≤ 60) (o5 : o < 5) {s1 : tpS} (hsub : Rn ro (d + 3) M_X8_any 0 [some (.ref 64)] [] (mk (up (up M 61 14 (nI (o + 1))) 61 13 (nI (s.1 + 1))) T) (fun rr h => ∃ M1, tpM f L u Mb (o + 1) (s1) M1 ∧ rr = none ∧ h = mk M1 T)) (hle1 : s1.1 ≤ L) (hc : tp_lk f L s1.1 = 41) (k1 : ∀ M', tpM f L u Mb (o) (tp_adv s1) M' → Q none (mk M' T)) : Rn ro (d + 4) M_X8_opens 0 [some (.ref 64), some (.int 40)] [] (mk M T) Q := by
  refine R_go 2 (pc' := 4) (L' := [some (.ref 64), some (.int 40)]) (st' := [.int (M 61 14)]) (h' := mk M T) (fun _ => rfl) ?_
  refine R_top (y := nI o) (hx.2.2.2.1.1) ?_
  refine R_ifn 2 (c := (nI o) = 5) (t := 14) (f := 8) (L' := [some (.ref 64), some (.int 40)]) (st' := []) (h' := mk M T) (fun _ => rfl) (fun g1 => ?_) (fun g1 => ?_)
  · replace g1 : ¬ o = 5 := fun q => g1 ((nI_eq (a := o) (b := 5) (by omega) (by omega)).mpr q)
    refine R_go 3 (pc' := 19) (L' := [some (.ref 64), some (.int 40)]) (st' := [.int (M 61 14), .ref 64]) (h' := mk M T) (fun _ => rfl) ?_
    refine R_top (y := nI o) (hx.2.2.2.1.1) ?_
    refine R_go 2 (pc' := 21) (L' := [some (.ref 64), some (.int 40)]) (st' := [.int (nI o + 1), .ref 64]) (h' := mk M T) (fun _ => rfl) ?_
    refine R_top (nI_add o 1) ?_
    refine R_go 4 (pc' := 29) (L' := [some (.ref 64), some (.int 40)]) (st' := [.int ((up M 61 14 (nI (o + 1))) 61 13), .ref 64]) (h' := mk (up M 61 14 (nI (o + 1))) T) (fun _ => rfl) ?_
    refine R_top (y := nI s.1) (hx.1) ?_
    refine R_go 2 (pc' := 31) (L' := [some (.ref 64), some (.int 40)]) (st' := [.int (nI s.1 + 1), .ref 64]) (h' := mk (up M 61 14 (nI (o + 1))) T) (fun _ => rfl) ?_
    refine R_top (nI_add s.1 1) ?_
    refine R_go 5 (pc' := 54) (L' := [some (.ref 64), some (.int 40)]) (st' := [.ref 64]) (h' := mk (up (up M 61 14 (nI (o + 1))) 61 13 (nI (s.1 + 1))) T) (fun _ => rfl) ?_
    refine R_callE (i := .invokevirtual 128) (kd := 0) (y := M_X8_any) (as := [.ref 64]) (r := []) (L0 := [some (.ref 64)]) (v := fun M1 => none) (h' := fun M1 => mk M1 T) (pc' := 57) (st' := fun M1 => []) rfl rfl rfl rfl rfl rfl (hsub) (fun M1 g2 => ?_)
    have hx1 := g2
    refine R_go 3 (pc' := 62) (L' := [some (.ref 64), some (.int 40)]) (st' := [.int (M1 61 15), .ref 64]) (h' := mk M1 T) (fun _ => rfl) ?_
    refine R_top (y := 0) (hx1.2.2.2.1.2.1) ?_
    refine R_go 2 (pc' := 66) (L' := [some (.ref 64), some (.int 40)]) (st' := [.ref 64, .ref 64]) (h' := mk M1 T) (fun _ => rfl) ?_
    refine R_callD (i := .invokevirtual 110) (kd := 0) (y := M_X8_look) (as := [.ref 64]) (r := [.ref 64]) (L0 := [some (.ref 64)]) (v := some (.int (tp_lk f L s1.1))) (h' := mk M1 T) (pc' := 69) (st' := [.int (tp_lk f L s1.1), .ref 64]) rfl rfl rfl rfl rfl rfl (tm_look hx1 hle1 h60) ?_
    refine R_top (y := 41) hc ?_
    refine R_go 7 (pc' := 87) (L' := [some (.ref 64), some (.int 40)]) (st' := [.int ((up M1 61 15 0) 61 13), .ref 64]) (h' := mk (up M1 61 15 0) T) (fun _ => rfl) ?_
    refine R_top (y := nI s1.1) (hx1.1) ?_
    refine R_go 2 (pc' := 91) (L' := [some (.ref 64), some (.int 40)]) (st' := [.int ((up M1 61 15 0) 61 15), .int (nI s1.1), .ref 64]) (h' := mk (up M1 61 15 0) T) (fun _ => rfl) ?_
    refine R_top (y := 0) (rfl) ?_
    refine R_go 3 (pc' := 100) (L' := [some (.ref 64), some (.int 40)]) (st' := [.int (nI s1.1 + 1), .ref 64]) (h' := mk (up M1 61 15 0) T) (fun _ => rfl) ?_
    refine R_top (nI_add s1.1 1) ?_
    refine R_go 4 (pc' := 108) (L' := [some (.ref 64), some (.int 40)]) (st' := [.int ((up (up M1 61 15 0) 61 13 (nI (s1.1 + 1))) 61 14), .ref 64]) (h' := mk (up (up M1 61 15 0) 61 13 (nI (s1.1 + 1))) T) (fun _ => rfl) ?_
    refine R_top (y := nI (o + 1)) (hx1.2.2.2.1.1) ?_
    refine R_go 2 (pc' := 110) (L' := [some (.ref 64), some (.int 40)]) (st' := [.int (nI (o + 1) - 1), .ref 64]) (h' := mk (up (up M1 61 15 0) 61 13 (nI (s1.1 + 1))) T) (fun _ => rfl) ?_
    refine R_top (nI_pred o) ?_
    refine R_ret 2 (pcr := 113) (v := none) (h' := mk (up (up (up M1 61 15 0) 61 13 (nI (s1.1 + 1))) 61 14 (nI o)) T) (fun _ => rfl) ?_
    exact k1 _ hx1.bad0.adv.opn
  · replace g1 : o = 5 := (nI_eq (a := o) (b := 5) (by omega) (by omega)).mp g1
    omega
set_option maxRecDepth 100000 in
set_option maxHeartbeats 4000000 in
theorem tm_op_par_n {ro : xRO} {d : Nat} {M : xM} {T : Nat} {Q : Option Value → xH → Prop} {f : Nat → Int32} {L u o : Nat} {Mb : xM} {s : tpS} (hx : tpM f L u Mb o s M) (hle : s.1 ≤ L) (h60 : L ≤ 60) (o5 : o < 5) {s1 : tpS} (hsub : Rn ro (d + 3) M_X8_any 0 [some (.ref 64)] [] (mk (up (up M 61 14 (nI (o + 1))) 61 13 (nI (s.1 + 1))) T) (fun rr h => ∃ M1, tpM f L u Mb (o + 1) (s1) M1 ∧ rr = none ∧ h = mk M1 T)) (hle1 : s1.1 ≤ L) (hs : s1.2.1 ≤ 60) (hc : ¬ tp_lk f L s1.1 = 41) (k1 : ∀ M', tpN L Mb (s1.1) M' → Q none (mk M' T)) : Rn ro (d + 4) M_X8_opens 0 [some (.ref 64), some (.int 40)] [] (mk M T) Q := by
  refine R_go 2 (pc' := 4) (L' := [some (.ref 64), some (.int 40)]) (st' := [.int (M 61 14)]) (h' := mk M T) (fun _ => rfl) ?_
  refine R_top (y := nI o) (hx.2.2.2.1.1) ?_
  refine R_ifn 2 (c := (nI o) = 5) (t := 14) (f := 8) (L' := [some (.ref 64), some (.int 40)]) (st' := []) (h' := mk M T) (fun _ => rfl) (fun g1 => ?_) (fun g1 => ?_)
  · replace g1 : ¬ o = 5 := fun q => g1 ((nI_eq (a := o) (b := 5) (by omega) (by omega)).mpr q)
    refine R_go 3 (pc' := 19) (L' := [some (.ref 64), some (.int 40)]) (st' := [.int (M 61 14), .ref 64]) (h' := mk M T) (fun _ => rfl) ?_
    refine R_top (y := nI o) (hx.2.2.2.1.1) ?_
    refine R_go 2 (pc' := 21) (L' := [some (.ref 64), some (.int 40)]) (st' := [.int (nI o + 1), .ref 64]) (h' := mk M T) (fun _ => rfl) ?_
    refine R_top (nI_add o 1) ?_
    refine R_go 4 (pc' := 29) (L' := [some (.ref 64), some (.int 40)]) (st' := [.int ((up M 61 14 (nI (o + 1))) 61 13), .ref 64]) (h' := mk (up M 61 14 (nI (o + 1))) T) (fun _ => rfl) ?_
    refine R_top (y := nI s.1) (hx.1) ?_
    refine R_go 2 (pc' := 31) (L' := [some (.ref 64), some (.int 40)]) (st' := [.int (nI s.1 + 1), .ref 64]) (h' := mk (up M 61 14 (nI (o + 1))) T) (fun _ => rfl) ?_
    refine R_top (nI_add s.1 1) ?_
    refine R_go 5 (pc' := 54) (L' := [some (.ref 64), some (.int 40)]) (st' := [.ref 64]) (h' := mk (up (up M 61 14 (nI (o + 1))) 61 13 (nI (s.1 + 1))) T) (fun _ => rfl) ?_
    refine R_callE (i := .invokevirtual 128) (kd := 0) (y := M_X8_any) (as := [.ref 64]) (r := []) (L0 := [some (.ref 64)]) (v := fun M1 => none) (h' := fun M1 => mk M1 T) (pc' := 57) (st' := fun M1 => []) rfl rfl rfl rfl rfl rfl (hsub) (fun M1 g2 => ?_)
    have hx1 := g2
    refine R_go 3 (pc' := 62) (L' := [some (.ref 64), some (.int 40)]) (st' := [.int (M1 61 15), .ref 64]) (h' := mk M1 T) (fun _ => rfl) ?_
    refine R_top (y := 0) (hx1.2.2.2.1.2.1) ?_
    refine R_go 2 (pc' := 66) (L' := [some (.ref 64), some (.int 40)]) (st' := [.ref 64, .ref 64]) (h' := mk M1 T) (fun _ => rfl) ?_
    refine R_callD (i := .invokevirtual 110) (kd := 0) (y := M_X8_look) (as := [.ref 64]) (r := [.ref 64]) (L0 := [some (.ref 64)]) (v := some (.int (tp_lk f L s1.1))) (h' := mk M1 T) (pc' := 69) (st' := [.int (tp_lk f L s1.1), .ref 64]) rfl rfl rfl rfl rfl rfl (tm_look hx1 hle1 h60) ?_
    refine R_if 2 (c := (tp_lk f L s1.1) = 41) (t := 78) (f := 74) (L' := [some (.ref 64), some (.int 40)]) (st' := [.ref 64]) (h' := mk M1 T) (fun _ => rfl) (fun g3 => ?_) (fun g3 => ?_)
    · exact absurd g3 (hc)
    · refine R_go 6 (pc' := 87) (L' := [some (.ref 64), some (.int 40)]) (st' := [.int ((up M1 61 15 1) 61 13), .ref 64]) (h' := mk (up M1 61 15 1) T) (fun _ => rfl) ?_
      refine R_top (y := nI s1.1) (hx1.1) ?_
      refine R_go 2 (pc' := 91) (L' := [some (.ref 64), some (.int 40)]) (st' := [.int ((up M1 61 15 1) 61 15), .int (nI s1.1), .ref 64]) (h' := mk (up M1 61 15 1) T) (fun _ => rfl) ?_
      refine R_top (y := 1) (rfl) ?_
      refine R_go 4 (pc' := 100) (L' := [some (.ref 64), some (.int 40)]) (st' := [.int (nI s1.1 + 0), .ref 64]) (h' := mk (up M1 61 15 1) T) (fun _ => rfl) ?_
      refine R_top (nI_add s1.1 0) ?_
      refine R_go 4 (pc' := 108) (L' := [some (.ref 64), some (.int 40)]) (st' := [.int ((up (up M1 61 15 1) 61 13 (nI (s1.1 + 0))) 61 14), .ref 64]) (h' := mk (up (up M1 61 15 1) 61 13 (nI (s1.1 + 0))) T) (fun _ => rfl) ?_
      refine R_top (y := nI (o + 1)) (hx1.2.2.2.1.1) ?_
      refine R_go 2 (pc' := 110) (L' := [some (.ref 64), some (.int 40)]) (st' := [.int (nI (o + 1) - 1), .ref 64]) (h' := mk (up (up M1 61 15 1) 61 13 (nI (s1.1 + 0))) T) (fun _ => rfl) ?_
      refine R_top (nI_pred o) ?_
      refine R_ret 2 (pcr := 113) (v := none) (h' := mk (up (up (up M1 61 15 1) 61 13 (nI (s1.1 + 0))) 61 14 (nI o)) T) (fun _ => rfl) ?_
      exact k1 _ ((hx1.flt hs).her rfl).opn
  · replace g1 : o = 5 := (nI_eq (a := o) (b := 5) (by omega) (by omega)).mp g1
    omega
