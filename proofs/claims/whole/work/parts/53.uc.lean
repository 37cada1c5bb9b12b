/-! ROUNDS: valueOf, tookOf -/
set_option maxRecDepth 100000 in
set_option maxHeartbeats 4000000 in
theorem c_cellOf {ro : xRO} {d : Nat} {M : xM} {T : Nat} {p r : Nat} (hp : p < 8) (hr : r < 16) : Rn ro (d + 1) M_X3_cellOf 0 [some (.int (nI p)), some (.int (nI r)), none] [] (mk M T) (fun rr h => rr = some (.int (nI (p * 16 + r))) ∧ h = mk M T) := by
  refine R_go 3 (pc' := 4) (L' := [some (.int (nI p)), some (.int (nI r)), none]) (st' := [.int 7, .int 0, .int (nI p)]) (h' := mk M T) (fun _ => rfl) ?_
  refine R_call2 (i := .invokestatic 33) (kd := 3) (y := M_X7_within) (as := [.int (nI p), .int 0, .int 7]) (r := []) (L0 := [some (.int (nI p)), some (.int 0), some (.int 7)]) (v1 := some (.int 1)) (v2 := some (.int 0)) (h1' := mk M T) (h2' := mk M T) (pc' := 7) (st1 := [.int 1]) (st2 := [.int 0]) rfl rfl rfl rfl rfl rfl (c_within) (fun g1 => ?_) (fun g1 => ?_)
  · refine R_go 4 (pc' := 14) (L' := [some (.int (nI p)), some (.int (nI r)), none]) (st' := [.int 15, .int 0, .int (nI r)]) (h' := mk M T) (fun _ => rfl) ?_
    refine R_call2 (i := .invokestatic 33) (kd := 3) (y := M_X7_within) (as := [.int (nI r), .int 0, .int 15]) (r := []) (L0 := [some (.int (nI r)), some (.int 0), some (.int 15)]) (v1 := some (.int 1)) (v2 := some (.int 0)) (h1' := mk M T) (h2' := mk M T) (pc' := 17) (st1 := [.int 1]) (st2 := [.int 0]) rfl rfl rfl rfl rfl rfl (c_within) (fun g2 => ?_) (fun g2 => ?_)
    · refine R_go 9 (pc' := 34) (L' := [some (.int (nI p)), some (.int (nI r)), some (.int 1)]) (st' := [.int (nI p * 16)]) (h' := mk M T) (fun _ => rfl) ?_
      refine R_top (pk_mul p 16) ?_
      refine R_go 2 (pc' := 36) (L' := [some (.int (nI p)), some (.int (nI r)), some (.int 1)]) (st' := [.int (nI (p * 16) + nI r)]) (h' := mk M T) (fun _ => rfl) ?_
      refine R_top (nI_add (p * 16) r) ?_
      refine R_ret 2 (pcr := 40) (v := some (.int (nI ((p * 16) + r)))) (h' := mk M T) (fun _ => rfl) ?_
      exact ⟨rfl, rfl⟩
    · exact absurd (nI_in2 (a := 0) (b := 15) (by omega) (by omega) (by omega)) g2
  · exact absurd (nI_in2 (a := 0) (b := 7) (by omega) (by omega) (by omega)) g1
set_option maxRecDepth 100000 in
set_option maxHeartbeats 4000000 in
theorem c_valueOf_a {ro : xRO} {d : Nat} {M : xM} {T : Nat} {M0 : xM} (h0 : Rel M0) (hf : FC M0 M) {P : Nat} (hP : M 1 6 = nI P) (h8 : P ≤ 8) {p r : Nat} (hp : p < P) (hr : r < 16) (hm : Memo M0 M) (hv6 : M (3 + p) 6 = nI (woN M0 p)) (hv5 : M (3 + p) 5 = nI (heN M0 p)) (hv : M 40 (p * 16 + r) = -1) : Rn ro (d + 4) M_X3_valueOf 0 [some (.ref 42), some (.ref 4), some (.int (nI p)), some (.int (nI r)), none, none] [] (mk M T) (fun rr h => ∃ M', (VX M M' ∧ Memo M0 M') ∧ rr = some (.int (nI (vlN M0 p r))) ∧ h = mk M' T) := by
  refine R_go 2 (pc' := 2) (L' := [some (.ref 42), some (.ref 4), some (.int (nI p)), some (.int (nI r)), none, none]) (st' := [.int (nI p), .ref 4]) (h' := mk M T) (fun _ => rfl) ?_
  refine R_callD (i := .invokevirtual 37) (kd := 0) (y := M_X0_paneAt) (as := [.ref 4, .int (nI p)]) (r := []) (L0 := [some (.ref 4), some (.int (nI p))]) (v := some (.ref (3 + p + 3))) (h' := mk M T) (pc' := 5) (st' := [.ref (3 + p + 3)]) rfl rfl rfl rfl rfl rfl (c_paneAt_in hP h8 hp) ?_
  refine R_go 3 (pc' := 9) (L' := [some (.ref 42), some (.ref 4), some (.int (nI p)), some (.int (nI r)), some (.ref (3 + p + 3)), none]) (st' := [.int (nI r), .int (nI p)]) (h' := mk M T) (fun _ => rfl) ?_
  refine R_callD (i := .invokestatic 43) (kd := 1) (y := M_X3_cellOf) (as := [.int (nI p), .int (nI r)]) (r := []) (L0 := [some (.int (nI p)), some (.int (nI r)), none]) (v := some (.int (nI (p * 16 + r)))) (h' := mk M T) (pc' := 12) (st' := [.int (nI (p * 16 + r))]) rfl rfl rfl rfl rfl rfl (c_cellOf (p := p) (r := r) (by omega) (by omega)) ?_
  refine R_if 5 (c := (nI (p * 16 + r)) < 0) (t := 34) (f := 24) (L' := [some (.ref 42), some (.ref 4), some (.int (nI p)), some (.int (nI r)), some (.ref (3 + p + 3)), some (.int (nI (p * 16 + r)))]) (st' := []) (h' := mk M T) (fun _ => rfl) (fun x1 => ?_) (fun x1 => ?_)
  · replace x1 : (p * 16 + r) < 0 := (nI_ltI (a := p * 16 + r) (b := 0) (by omega) (by omega)).mp x1
    omega
  · replace x1 : ¬ (p * 16 + r) < 0 := fun q => x1 ((nI_ltI (a := p * 16 + r) (b := 0) (by omega) (by omega)).mpr q)
    refine R_if 5 (c := (nI (p * 16 + r)) < 128) (t := 36) (f := 34) (L' := [some (.ref 42), some (.ref 4), some (.int (nI p)), some (.int (nI r)), some (.ref (3 + p + 3)), some (.int (nI (p * 16 + r)))]) (st' := []) (h' := mk M T) (fun _ => rfl) (fun x2 => ?_) (fun x2 => ?_)
    · replace x2 : (p * 16 + r) < 128 := (nI_ltI (a := p * 16 + r) (b := 128) (by omega) (by omega)).mp x2
      refine R_go 3 (pc' := 42) (L' := [some (.ref 42), some (.ref 4), some (.int (nI p)), some (.int (nI r)), some (.ref (3 + p + 3)), some (.int (nI (p * 16 + r)))]) (st' := [.int (nI (p * 16 + r)), .ref 43]) (h' := mk M T) (fun _ => rfl) ?_
      refine R_iald (c := 40) (n := 128) (j := p * 16 + r) rfl rfl (by omega) (by decide) ?_
      refine R_top (y := -1) (hv) ?_
      refine R_go 7 (pc' := 56) (L' := [some (.ref 42), some (.ref 4), some (.int (nI p)), some (.int (nI r)), some (.ref (3 + p + 3)), some (.int (nI (p * 16 + r)))]) (st' := [.ref (3 + p + 3), .int (nI r), .ref 4, .int (nI (p * 16 + r)), .ref 43]) (h' := mk M T) (fun _ => rfl) ?_
      refine R_getI (i := 47) (j := 6) (c := 3 + p) (sh_pane (by omega)) rfl rfl rfl ?_
      refine R_top (y := nI (woN M0 p)) (hv6) ?_
      refine R_go 1 (pc' := 61) (L' := [some (.ref 42), some (.ref 4), some (.int (nI p)), some (.int (nI r)), some (.ref (3 + p + 3)), some (.int (nI (p * 16 + r)))]) (st' := [.ref (3 + p + 3), .int (nI (woN M0 p)), .int (nI r), .ref 4, .int (nI (p * 16 + r)), .ref 43]) (h' := mk M T) (fun _ => rfl) ?_
      refine R_getI (i := 53) (j := 5) (c := 3 + p) (sh_pane (by omega)) rfl rfl rfl ?_
      refine R_top (y := nI (heN M0 p)) (hv5) ?_
      refine R_callE (i := .invokevirtual 56) (kd := 0) (y := M_X0_valueBy) (as := [.ref 4, .int (nI r), .int (nI (woN M0 p)), .int (nI (heN M0 p))]) (r := [.int (nI (p * 16 + r)), .ref 43]) (L0 := [some (.ref 4), some (.int (nI r)), some (.int (nI (woN M0 p))), some (.int (nI (heN M0 p)))]) (v := fun g => some (.int (vlX M0 (nI r) (nI (woN M0 p)) (nI (heN M0 p))))) (h' := fun g => mk (upA M 19 g) T) (pc' := 67) (st' := fun g => [.int (vlX M0 (nI r) (nI (woN M0 p)) (nI (heN M0 p))), .int (nI (p * 16 + r)), .ref 43]) rfl rfl rfl rfl rfl rfl (c_valueByE h0 hf) (fun g x3 => ?_)
      refine R_top (vlN_in M0 p r).1 ?_
      refine R_iast (c := 40) (n := 128) (j := p * 16 + r) rfl rfl (by omega) (by decide) ?_
      refine R_go 3 (pc' := 74) (L' := [some (.ref 42), some (.ref 4), some (.int (nI p)), some (.int (nI r)), some (.ref (3 + p + 3)), some (.int (nI (p * 16 + r)))]) (st' := [.int (nI (p * 16 + r)), .ref 43]) (h' := mk (up (upA M 19 g) 40 (p * 16 + r) (nI (vlN M0 p r))) T) (fun _ => rfl) ?_
      refine R_iald (c := 40) (n := 128) (j := p * 16 + r) rfl rfl (by omega) (by decide) ?_
      refine R_top (y := nI (vlN M0 p r)) (up_at) ?_
      refine R_ret 1 (pcr := 75) (v := some (.int (nI (vlN M0 p r)))) (h' := mk (up (upA M 19 g) 40 (p * 16 + r) (nI (vlN M0 p r))) T) (fun _ => rfl) ?_
      exact ⟨_, ⟨fun c a b d e => by rw [up_ne d, upA_ne b], (hm.frame (M' := upA M 19 g) rfl rfl).up40 (by omega) hr⟩, rfl, rfl⟩
    · replace x2 : ¬ (p * 16 + r) < 128 := fun q => x2 ((nI_ltI (a := p * 16 + r) (b := 128) (by omega) (by omega)).mpr q)
      omega
set_option maxRecDepth 100000 in
set_option maxHeartbeats 4000000 in
theorem c_valueOf_b {ro : xRO} {d : Nat} {M : xM} {T : Nat} {M0 : xM} (h0 : Rel M0) (hf : FC M0 M) {P : Nat} (hP : M 1 6 = nI P) (h8 : P ≤ 8) {p r : Nat} (hp : p < P) (hr : r < 16) (hm : Memo M0 M) (hv : M 40 (p * 16 + r) = nI (vlN M0 p r)) : Rn ro (d + 4) M_X3_valueOf 0 [some (.ref 42), some (.ref 4), some (.int (nI p)), some (.int (nI r)), none, none] [] (mk M T) (fun rr h => ∃ M', (VX M M' ∧ Memo M0 M') ∧ rr = some (.int (nI (vlN M0 p r))) ∧ h = mk M' T) := by
  have w1 := vlN_in M0 p r
  have w2 := tkN_in M0 p r
  refine R_go 2 (pc' := 2) (L' := [some (.ref 42), some (.ref 4), some (.int (nI p)), some (.int (nI r)), none, none]) (st' := [.int (nI p), .ref 4]) (h' := mk M T) (fun _ => rfl) ?_
  refine R_callD (i := .invokevirtual 37) (kd := 0) (y := M_X0_paneAt) (as := [.ref 4, .int (nI p)]) (r := []) (L0 := [some (.ref 4), some (.int (nI p))]) (v := some (.ref (3 + p + 3))) (h' := mk M T) (pc' := 5) (st' := [.ref (3 + p + 3)]) rfl rfl rfl rfl rfl rfl (c_paneAt_in hP h8 hp) ?_
  refine R_go 3 (pc' := 9) (L' := [some (.ref 42), some (.ref 4), some (.int (nI p)), some (.int (nI r)), some (.ref (3 + p + 3)), none]) (st' := [.int (nI r), .int (nI p)]) (h' := mk M T) (fun _ => rfl) ?_
  refine R_callD (i := .invokestatic 43) (kd := 1) (y := M_X3_cellOf) (as := [.int (nI p), .int (nI r)]) (r := []) (L0 := [some (.int (nI p)), some (.int (nI r)), none]) (v := some (.int (nI (p * 16 + r)))) (h' := mk M T) (pc' := 12) (st' := [.int (nI (p * 16 + r))]) rfl rfl rfl rfl rfl rfl (c_cellOf (p := p) (r := r) (by omega) (by omega)) ?_
  refine R_if 5 (c := (nI (p * 16 + r)) < 0) (t := 34) (f := 24) (L' := [some (.ref 42), some (.ref 4), some (.int (nI p)), some (.int (nI r)), some (.ref (3 + p + 3)), some (.int (nI (p * 16 + r)))]) (st' := []) (h' := mk M T) (fun _ => rfl) (fun x1 => ?_) (fun x1 => ?_)
  · replace x1 : (p * 16 + r) < 0 := (nI_ltI (a := p * 16 + r) (b := 0) (by omega) (by omega)).mp x1
    omega
  · replace x1 : ¬ (p * 16 + r) < 0 := fun q => x1 ((nI_ltI (a := p * 16 + r) (b := 0) (by omega) (by omega)).mpr q)
    refine R_if 5 (c := (nI (p * 16 + r)) < 128) (t := 36) (f := 34) (L' := [some (.ref 42), some (.ref 4), some (.int (nI p)), some (.int (nI r)), some (.ref (3 + p + 3)), some (.int (nI (p * 16 + r)))]) (st' := []) (h' := mk M T) (fun _ => rfl) (fun x2 => ?_) (fun x2 => ?_)
    · replace x2 : (p * 16 + r) < 128 := (nI_ltI (a := p * 16 + r) (b := 128) (by omega) (by omega)).mp x2
      refine R_go 3 (pc' := 42) (L' := [some (.ref 42), some (.ref 4), some (.int (nI p)), some (.int (nI r)), some (.ref (3 + p + 3)), some (.int (nI (p * 16 + r)))]) (st' := [.int (nI (p * 16 + r)), .ref 43]) (h' := mk M T) (fun _ => rfl) ?_
      refine R_iald (c := 40) (n := 128) (j := p * 16 + r) rfl rfl (by omega) (by decide) ?_
      refine R_top (y := nI (vlN M0 p r)) (hv) ?_
      refine R_if 1 (c := 0 ≤ (nI (vlN M0 p r))) (t := 68) (f := 46) (L' := [some (.ref 42), some (.ref 4), some (.int (nI p)), some (.int (nI r)), some (.ref (3 + p + 3)), some (.int (nI (p * 16 + r)))]) (st' := []) (h' := mk M T) (fun _ => rfl) (fun x3 => ?_) (fun x3 => ?_)
      · replace x3 : 0 ≤ (vlN M0 p r) := (nI_leI (a := 0) (b := vlN M0 p r) (by omega) (by omega)).mp x3
        refine R_go 3 (pc' := 74) (L' := [some (.ref 42), some (.ref 4), some (.int (nI p)), some (.int (nI r)), some (.ref (3 + p + 3)), some (.int (nI (p * 16 + r)))]) (st' := [.int (nI (p * 16 + r)), .ref 43]) (h' := mk M T) (fun _ => rfl) ?_
        refine R_iald (c := 40) (n := 128) (j := p * 16 + r) rfl rfl (by omega) (by decide) ?_
        refine R_top (y := nI (vlN M0 p r)) (hv) ?_
        refine R_ret 1 (pcr := 75) (v := some (.int (nI (vlN M0 p r)))) (h' := mk M T) (fun _ => rfl) ?_
        exact ⟨M, ⟨fun _ _ _ _ _ => rfl, hm⟩, rfl, rfl⟩
      · replace x3 : ¬ 0 ≤ (vlN M0 p r) := fun q => x3 ((nI_leI (a := 0) (b := vlN M0 p r) (by omega) (by omega)).mpr q)
        omega
    · replace x2 : ¬ (p * 16 + r) < 128 := fun q => x2 ((nI_ltI (a := p * 16 + r) (b := 128) (by omega) (by omega)).mpr q)
      omega
theorem c_valueOf {ro : xRO} {d : Nat} {M : xM} {T : Nat} {M0 : xM} (h0 : Rel M0) (hf : FC M0 M) {P : Nat} (hP : M 1 6 = nI P) (h8 : P ≤ 8) {p r : Nat} (hp : p < P) (hr : r < 16) (hm : Memo M0 M) : Rn ro (d + 4) M_X3_valueOf 0 [some (.ref 42), some (.ref 4), some (.int (nI p)), some (.int (nI r)), none, none] [] (mk M T) (fun rr h => ∃ M', (VX M M' ∧ Memo M0 M') ∧ rr = some (.int (nI (vlN M0 p r))) ∧ h = mk M' T) := by
  obtain ⟨a1, a2, a3, a4, a5, -⟩ := fc_pane h0 hf (p := p) (by omega)
  rcases (hm p r (by omega) hr).1 with hv | hv
  · exact c_valueOf_a h0 hf hP h8 hp hr hm a4 a3 hv
  · exact c_valueOf_b h0 hf hP h8 hp hr hm hv
set_option maxRecDepth 100000 in
set_option maxHeartbeats 4000000 in
theorem m_valueOf_1 {ro : xRO} {d : Nat} {M : xM} {T : Nat} {M0 : xM} (h0 : Rel M0) (hf : FM M0 M) {p r : Nat} (hp : p < 8) (hv6 : M 62 (10 + 7 * p + 6) = nI (woN M0 p)) (hv5 : M 62 (10 + 7 * p + 5) = nI (heN M0 p)) : Rn ro (d + 4) M_X8_valueOf 0 [some (.ref 64), some (.int (nI p)), some (.int (nI r))] [] (mk M T) (fun rr h => ∃ M', VM M M' ∧ rr = some (.int (nI (vlN M0 p r))) ∧ h = mk M' T) := by
  refine R_go 6 (pc' := 7) (L' := [some (.ref 64), some (.int (nI p)), some (.int (nI r))]) (st' := [.int 6, .int (nI p), .ref 64, .int (nI r), .int 1, .ref 64]) (h' := mk M T) (fun _ => rfl) ?_
  refine R_callD (i := .invokevirtual 57) (kd := 0) (y := M_X8_of) (as := [.ref 64, .int (nI p), .int 6]) (r := [.int (nI r), .int 1, .ref 64]) (L0 := [some (.ref 64), some (.int (nI p)), some (.int 6)]) (v := some (.int (M 62 (10 + 7 * p + 6)))) (h' := mk M T) (pc' := 10) (st' := [.int (M 62 (10 + 7 * p + 6)), .int (nI r), .int 1, .ref 64]) rfl rfl rfl rfl rfl rfl (m_of (p := p) (j := 6) hp (by omega)) ?_
  refine R_top (y := nI (woN M0 p)) (hv6) ?_
  refine R_go 3 (pc' := 13) (L' := [some (.ref 64), some (.int (nI p)), some (.int (nI r))]) (st' := [.int 5, .int (nI p), .ref 64, .int (nI (woN M0 p)), .int (nI r), .int 1, .ref 64]) (h' := mk M T) (fun _ => rfl) ?_
  refine R_callD (i := .invokevirtual 57) (kd := 0) (y := M_X8_of) (as := [.ref 64, .int (nI p), .int 5]) (r := [.int (nI (woN M0 p)), .int (nI r), .int 1, .ref 64]) (L0 := [some (.ref 64), some (.int (nI p)), some (.int 5)]) (v := some (.int (M 62 (10 + 7 * p + 5)))) (h' := mk M T) (pc' := 16) (st' := [.int (M 62 (10 + 7 * p + 5)), .int (nI (woN M0 p)), .int (nI r), .int 1, .ref 64]) rfl rfl rfl rfl rfl rfl (m_of (p := p) (j := 5) hp (by omega)) ?_
  refine R_top (y := nI (heN M0 p)) (hv5) ?_
  refine R_callE (i := .invokevirtual 76) (kd := 0) (y := M_X8_gives) (as := [.ref 64, .int 1, .int (nI r), .int (nI (woN M0 p)), .int (nI (heN M0 p))]) (r := []) (L0 := [some (.ref 64), some (.int 1), some (.int (nI r)), some (.int (nI (woN M0 p))), some (.int (nI (heN M0 p))), none, none]) (v := fun M' => some (.int (vlX M0 (nI r) (nI (woN M0 p)) (nI (heN M0 p))))) (h' := fun M' => mk M' T) (pc' := 19) (st' := fun M' => [.int (vlX M0 (nI r) (nI (woN M0 p)) (nI (heN M0 p)))]) rfl rfl rfl rfl rfl rfl (m_gives1E h0 hf) (fun M' x1 => ?_)
  refine R_top (vlN_in M0 p r).1 ?_
  refine R_ret 1 (pcr := 19) (v := some (.int (nI (vlN M0 p r)))) (h' := mk M' T) (fun _ => rfl) ?_
  exact ⟨M', x1, rfl, rfl⟩
theorem m_valueOf {ro : xRO} {d : Nat} {M : xM} {T : Nat} {M0 : xM} (h0 : Rel M0) (hf : FM M0 M) {p r : Nat} (hp : p < 8) : Rn ro (d + 4) M_X8_valueOf 0 [some (.ref 64), some (.int (nI p)), some (.int (nI r))] [] (mk M T) (fun rr h => ∃ M', VM M M' ∧ rr = some (.int (nI (vlN M0 p r))) ∧ h = mk M' T) := by
  obtain ⟨a6, a7, a8, a9, a10, -⟩ := fm_pane h0 hf (p := p) hp
  exact m_valueOf_1 h0 hf hp a9 a8
set_option maxRecDepth 100000 in
set_option maxHeartbeats 4000000 in
theorem c_tookOf_a {ro : xRO} {d : Nat} {M : xM} {T : Nat} {M0 : xM} (h0 : Rel M0) (hf : FC M0 M) {P : Nat} (hP : M 1 6 = nI P) (h8 : P ≤ 8) {p r : Nat} (hp : p < P) (hr : r < 16) (hm : Memo M0 M) (hv4 : M (3 + p) 4 = nI (flN M0 p)) (hv0 : M (3 + p) 0 = nI (kdN M0 p)) (hv : M 41 (p * 16 + r) = -1) : Rn ro (d + 4) M_X3_tookOf 0 [some (.ref 42), some (.ref 4), some (.int (nI p)), some (.int (nI r)), none, none] [] (mk M T) (fun rr h => ∃ M', (VX M M' ∧ Memo M0 M') ∧ rr = some (.int (nI (tkN M0 p r))) ∧ h = mk M' T) := by
  refine R_go 2 (pc' := 2) (L' := [some (.ref 42), some (.ref 4), some (.int (nI p)), some (.int (nI r)), none, none]) (st' := [.int (nI p), .ref 4]) (h' := mk M T) (fun _ => rfl) ?_
  refine R_callD (i := .invokevirtual 37) (kd := 0) (y := M_X0_paneAt) (as := [.ref 4, .int (nI p)]) (r := []) (L0 := [some (.ref 4), some (.int (nI p))]) (v := some (.ref (3 + p + 3))) (h' := mk M T) (pc' := 5) (st' := [.ref (3 + p + 3)]) rfl rfl rfl rfl rfl rfl (c_paneAt_in hP h8 hp) ?_
  refine R_go 3 (pc' := 9) (L' := [some (.ref 42), some (.ref 4), some (.int (nI p)), some (.int (nI r)), some (.ref (3 + p + 3)), none]) (st' := [.int (nI r), .int (nI p)]) (h' := mk M T) (fun _ => rfl) ?_
  refine R_callD (i := .invokestatic 43) (kd := 1) (y := M_X3_cellOf) (as := [.int (nI p), .int (nI r)]) (r := []) (L0 := [some (.int (nI p)), some (.int (nI r)), none]) (v := some (.int (nI (p * 16 + r)))) (h' := mk M T) (pc' := 12) (st' := [.int (nI (p * 16 + r))]) rfl rfl rfl rfl rfl rfl (c_cellOf (p := p) (r := r) (by omega) (by omega)) ?_
  refine R_if 5 (c := (nI (p * 16 + r)) < 0) (t := 34) (f := 24) (L' := [some (.ref 42), some (.ref 4), some (.int (nI p)), some (.int (nI r)), some (.ref (3 + p + 3)), some (.int (nI (p * 16 + r)))]) (st' := []) (h' := mk M T) (fun _ => rfl) (fun x1 => ?_) (fun x1 => ?_)
  · replace x1 : (p * 16 + r) < 0 := (nI_ltI (a := p * 16 + r) (b := 0) (by omega) (by omega)).mp x1
    omega
  · replace x1 : ¬ (p * 16 + r) < 0 := fun q => x1 ((nI_ltI (a := p * 16 + r) (b := 0) (by omega) (by omega)).mpr q)
    refine R_if 5 (c := (nI (p * 16 + r)) < 128) (t := 36) (f := 34) (L' := [some (.ref 42), some (.ref 4), some (.int (nI p)), some (.int (nI r)), some (.ref (3 + p + 3)), some (.int (nI (p * 16 + r)))]) (st' := []) (h' := mk M T) (fun _ => rfl) (fun x2 => ?_) (fun x2 => ?_)
    · replace x2 : (p * 16 + r) < 128 := (nI_ltI (a := p * 16 + r) (b := 128) (by omega) (by omega)).mp x2
      refine R_go 3 (pc' := 42) (L' := [some (.ref 42), some (.ref 4), some (.int (nI p)), some (.int (nI r)), some (.ref (3 + p + 3)), some (.int (nI (p * 16 + r)))]) (st' := [.int (nI (p * 16 + r)), .ref 44]) (h' := mk M T) (fun _ => rfl) ?_
      refine R_iald (c := 41) (n := 128) (j := p * 16 + r) rfl rfl (by omega) (by decide) ?_
      refine R_top (y := -1) (hv) ?_
      refine R_go 7 (pc' := 56) (L' := [some (.ref 42), some (.ref 4), some (.int (nI p)), some (.int (nI r)), some (.ref (3 + p + 3)), some (.int (nI (p * 16 + r)))]) (st' := [.ref (3 + p + 3), .int (nI r), .ref 4, .int (nI (p * 16 + r)), .ref 44]) (h' := mk M T) (fun _ => rfl) ?_
      refine R_getI (i := 60) (j := 4) (c := 3 + p) (sh_pane (by omega)) rfl rfl rfl ?_
      refine R_top (y := nI (flN M0 p)) (hv4) ?_
      refine R_go 1 (pc' := 61) (L' := [some (.ref 42), some (.ref 4), some (.int (nI p)), some (.int (nI r)), some (.ref (3 + p + 3)), some (.int (nI (p * 16 + r)))]) (st' := [.ref (3 + p + 3), .int (nI (flN M0 p)), .int (nI r), .ref 4, .int (nI (p * 16 + r)), .ref 44]) (h' := mk M T) (fun _ => rfl) ?_
      refine R_getI (i := 63) (j := 0) (c := 3 + p) (sh_pane (by omega)) rfl rfl rfl ?_
      refine R_top (y := nI (kdN M0 p)) (hv0) ?_
      refine R_callE (i := .invokevirtual 66) (kd := 0) (y := M_X0_tookBy) (as := [.ref 4, .int (nI r), .int (nI (flN M0 p)), .int (nI (kdN M0 p))]) (r := [.int (nI (p * 16 + r)), .ref 44]) (L0 := [some (.ref 4), some (.int (nI r)), some (.int (nI (flN M0 p))), some (.int (nI (kdN M0 p)))]) (v := fun g => some (.int (tkX M0 (nI r) (nI (flN M0 p)) (nI (kdN M0 p))))) (h' := fun g => mk (upA M 16 g) T) (pc' := 67) (st' := fun g => [.int (tkX M0 (nI r) (nI (flN M0 p)) (nI (kdN M0 p))), .int (nI (p * 16 + r)), .ref 44]) rfl rfl rfl rfl rfl rfl (c_tookByE h0 hf) (fun g x3 => ?_)
      refine R_top (tkN_in M0 p r).1 ?_
      refine R_iast (c := 41) (n := 128) (j := p * 16 + r) rfl rfl (by omega) (by decide) ?_
      refine R_go 3 (pc' := 74) (L' := [some (.ref 42), some (.ref 4), some (.int (nI p)), some (.int (nI r)), some (.ref (3 + p + 3)), some (.int (nI (p * 16 + r)))]) (st' := [.int (nI (p * 16 + r)), .ref 44]) (h' := mk (up (upA M 16 g) 41 (p * 16 + r) (nI (tkN M0 p r))) T) (fun _ => rfl) ?_
      refine R_iald (c := 41) (n := 128) (j := p * 16 + r) rfl rfl (by omega) (by decide) ?_
      refine R_top (y := nI (tkN M0 p r)) (up_at) ?_
      refine R_ret 1 (pcr := 75) (v := some (.int (nI (tkN M0 p r)))) (h' := mk (up (upA M 16 g) 41 (p * 16 + r) (nI (tkN M0 p r))) T) (fun _ => rfl) ?_
      exact ⟨_, ⟨fun c a b d e => by rw [up_ne e, upA_ne a], (hm.frame (M' := upA M 16 g) rfl rfl).up41 (by omega) hr⟩, rfl, rfl⟩
    · replace x2 : ¬ (p * 16 + r) < 128 := fun q => x2 ((nI_ltI (a := p * 16 + r) (b := 128) (by omega) (by omega)).mpr q)
      omega
set_option maxRecDepth 100000 in
set_option maxHeartbeats 4000000 in
theorem c_tookOf_b {ro : xRO} {d : Nat} {M : xM} {T : Nat} {M0 : xM} (h0 : Rel M0) (hf : FC M0 M) {P : Nat} (hP : M 1 6 = nI P) (h8 : P ≤ 8) {p r : Nat} (hp : p < P) (hr : r < 16) (hm : Memo M0 M) (hv : M 41 (p * 16 + r) = nI (tkN M0 p r)) : Rn ro (d + 4) M_X3_tookOf 0 [some (.ref 42), some (.ref 4), some (.int (nI p)), some (.int (nI r)), none, none] [] (mk M T) (fun rr h => ∃ M', (VX M M' ∧ Memo M0 M') ∧ rr = some (.int (nI (tkN M0 p r))) ∧ h = mk M' T) := by
  have w1 := vlN_in M0 p r
  have w2 := tkN_in M0 p r
  refine R_go 2 (pc' := 2) (L' := [some (.ref 42), some (.ref 4), some (.int (nI p)), some (.int (nI r)), none, none]) (st' := [.int (nI p), .ref 4]) (h' := mk M T) (fun _ => rfl) ?_
  refine R_callD (i := .invokevirtual 37) (kd := 0) (y := M_X0_paneAt) (as := [.ref 4, .int (nI p)]) (r := []) (L0 := [some (.ref 4), some (.int (nI p))]) (v := some (.ref (3 + p + 3))) (h' := mk M T) (pc' := 5) (st' := [.ref (3 + p + 3)]) rfl rfl rfl rfl rfl rfl (c_paneAt_in hP h8 hp) ?_
  refine R_go 3 (pc' := 9) (L' := [some (.ref 42), some (.ref 4), some (.int (nI p)), some (.int (nI r)), some (.ref (3 + p + 3)), none]) (st' := [.int (nI r), .int (nI p)]) (h' := mk M T) (fun _ => rfl) ?_
  refine R_callD (i := .invokestatic 43) (kd := 1) (y := M_X3_cellOf) (as := [.int (nI p), .int (nI r)]) (r := []) (L0 := [some (.int (nI p)), some (.int (nI r)), none]) (v := some (.int (nI (p * 16 + r)))) (h' := mk M T) (pc' := 12) (st' := [.int (nI (p * 16 + r))]) rfl rfl rfl rfl rfl rfl (c_cellOf (p := p) (r := r) (by omega) (by omega)) ?_
  refine R_if 5 (c := (nI (p * 16 + r)) < 0) (t := 34) (f := 24) (L' := [some (.ref 42), some (.ref 4), some (.int (nI p)), some (.int (nI r)), some (.ref (3 + p + 3)), some (.int (nI (p * 16 + r)))]) (st' := []) (h' := mk M T) (fun _ => rfl) (fun x1 => ?_) (fun x1 => ?_)
  · replace x1 : (p * 16 + r) < 0 := (nI_ltI (a := p * 16 + r) (b := 0) (by omega) (by omega)).mp x1
    omega
  · replace x1 : ¬ (p * 16 + r) < 0 := fun q => x1 ((nI_ltI (a := p * 16 + r) (b := 0) (by omega) (by omega)).mpr q)
    refine R_if 5 (c := (nI (p * 16 + r)) < 128) (t := 36) (f := 34) (L' := [some (.ref 42), some (.ref 4), some (.int (nI p)), some (.int (nI r)), some (.ref (3 + p + 3)), some (.int (nI (p * 16 + r)))]) (st' := []) (h' := mk M T) (fun _ => rfl) (fun x2 => ?_) (fun x2 => ?_)
    · replace x2 : (p * 16 + r) < 128 := (nI_ltI (a := p * 16 + r) (b := 128) (by omega) (by omega)).mp x2
      refine R_go 3 (pc' := 42) (L' := [some (.ref 42), some (.ref 4), some (.int (nI p)), some (.int (nI r)), some (.ref (3 + p + 3)), some (.int (nI (p * 16 + r)))]) (st' := [.int (nI (p * 16 + r)), .ref 44]) (h' := mk M T) (fun _ => rfl) ?_
      refine R_iald (c := 41) (n := 128) (j := p * 16 + r) rfl rfl (by omega) (by decide) ?_
      refine R_top (y := nI (tkN M0 p r)) (hv) ?_
      refine R_if 1 (c := 0 ≤ (nI (tkN M0 p r))) (t := 68) (f := 46) (L' := [some (.ref 42), some (.ref 4), some (.int (nI p)), some (.int (nI r)), some (.ref (3 + p + 3)), some (.int (nI (p * 16 + r)))]) (st' := []) (h' := mk M T) (fun _ => rfl) (fun x3 => ?_) (fun x3 => ?_)
      · replace x3 : 0 ≤ (tkN M0 p r) := (nI_leI (a := 0) (b := tkN M0 p r) (by omega) (by omega)).mp x3
        refine R_go 3 (pc' := 74) (L' := [some (.ref 42), some (.ref 4), some (.int (nI p)), some (.int (nI r)), some (.ref (3 + p + 3)), some (.int (nI (p * 16 + r)))]) (st' := [.int (nI (p * 16 + r)), .ref 44]) (h' := mk M T) (fun _ => rfl) ?_
        refine R_iald (c := 41) (n := 128) (j := p * 16 + r) rfl rfl (by omega) (by decide) ?_
        refine R_top (y := nI (tkN M0 p r)) (hv) ?_
        refine R_ret 1 (pcr := 75) (v := some (.int (nI (tkN M0 p r)))) (h' := mk M T) (fun _ => rfl) ?_
        exact ⟨M, ⟨fun _ _ _ _ _ => rfl, hm⟩, rfl, rfl⟩
      · replace x3 : ¬ 0 ≤ (tkN M0 p r) := fun q => x3 ((nI_leI (a := 0) (b := tkN M0 p r) (by omega) (by omega)).mpr q)
        omega
    · replace x2 : ¬ (p * 16 + r) < 128 := fun q => x2 ((nI_ltI (a := p * 16 + r) (b := 128) (by omega) (by omega)).mpr q)
      omega
theorem c_tookOf {ro : xRO} {d : Nat} {M : xM} {T : Nat} {M0 : xM} (h0 : Rel M0) (hf : FC M0 M) {P : Nat} (hP : M 1 6 = nI P) (h8 : P ≤ 8) {p r : Nat} (hp : p < P) (hr : r < 16) (hm : Memo M0 M) : Rn ro (d + 4) M_X3_tookOf 0 [some (.ref 42), some (.ref 4), some (.int (nI p)), some (.int (nI r)), none, none] [] (mk M T) (fun rr h => ∃ M', (VX M M' ∧ Memo M0 M') ∧ rr = some (.int (nI (tkN M0 p r))) ∧ h = mk M' T) := by
  obtain ⟨a1, a2, a3, a4, a5, -⟩ := fc_pane h0 hf (p := p) (by omega)
  rcases (hm p r (by omega) hr).2 with hv | hv
  · exact c_tookOf_a h0 hf hP h8 hp hr hm a2 a5 hv
  · exact c_tookOf_b h0 hf hP h8 hp hr hm hv
set_option maxRecDepth 100000 in
set_option maxHeartbeats 4000000 in
theorem m_tookOf_1 {ro : xRO} {d : Nat} {M : xM} {T : Nat} {M0 : xM} (h0 : Rel M0) (hf : FM M0 M) {p r : Nat} (hp : p < 8) (hv4 : M 62 (10 + 7 * p + 4) = nI (flN M0 p)) (hv0 : M 62 (10 + 7 * p + 0) = nI (kdN M0 p)) : Rn ro (d + 4) M_X8_tookBy 0 [some (.ref 64), some (.int (nI p)), some (.int (nI r))] [] (mk M T) (fun rr h => ∃ M', VM M M' ∧ rr = some (.int (nI (tkN M0 p r))) ∧ h = mk M' T) := by
  refine R_go 6 (pc' := 6) (L' := [some (.ref 64), some (.int (nI p)), some (.int (nI r))]) (st' := [.int 4, .int (nI p), .ref 64, .int (nI r), .int 0, .ref 64]) (h' := mk M T) (fun _ => rfl) ?_
  refine R_callD (i := .invokevirtual 57) (kd := 0) (y := M_X8_of) (as := [.ref 64, .int (nI p), .int 4]) (r := [.int (nI r), .int 0, .ref 64]) (L0 := [some (.ref 64), some (.int (nI p)), some (.int 4)]) (v := some (.int (M 62 (10 + 7 * p + 4)))) (h' := mk M T) (pc' := 9) (st' := [.int (M 62 (10 + 7 * p + 4)), .int (nI r), .int 0, .ref 64]) rfl rfl rfl rfl rfl rfl (m_of (p := p) (j := 4) hp (by omega)) ?_
  refine R_top (y := nI (flN M0 p)) (hv4) ?_
  refine R_go 3 (pc' := 12) (L' := [some (.ref 64), some (.int (nI p)), some (.int (nI r))]) (st' := [.int 0, .int (nI p), .ref 64, .int (nI (flN M0 p)), .int (nI r), .int 0, .ref 64]) (h' := mk M T) (fun _ => rfl) ?_
  refine R_callD (i := .invokevirtual 57) (kd := 0) (y := M_X8_of) (as := [.ref 64, .int (nI p), .int 0]) (r := [.int (nI (flN M0 p)), .int (nI r), .int 0, .ref 64]) (L0 := [some (.ref 64), some (.int (nI p)), some (.int 0)]) (v := some (.int (M 62 (10 + 7 * p + 0)))) (h' := mk M T) (pc' := 15) (st' := [.int (M 62 (10 + 7 * p + 0)), .int (nI (flN M0 p)), .int (nI r), .int 0, .ref 64]) rfl rfl rfl rfl rfl rfl (m_of (p := p) (j := 0) hp (by omega)) ?_
  refine R_top (y := nI (kdN M0 p)) (hv0) ?_
  refine R_callE (i := .invokevirtual 76) (kd := 0) (y := M_X8_gives) (as := [.ref 64, .int 0, .int (nI r), .int (nI (flN M0 p)), .int (nI (kdN M0 p))]) (r := []) (L0 := [some (.ref 64), some (.int 0), some (.int (nI r)), some (.int (nI (flN M0 p))), some (.int (nI (kdN M0 p))), none, none]) (v := fun M' => some (.int (tkX M0 (nI r) (nI (flN M0 p)) (nI (kdN M0 p))))) (h' := fun M' => mk M' T) (pc' := 18) (st' := fun M' => [.int (tkX M0 (nI r) (nI (flN M0 p)) (nI (kdN M0 p)))]) rfl rfl rfl rfl rfl rfl (m_gives0E h0 hf) (fun M' x1 => ?_)
  refine R_top (tkN_in M0 p r).1 ?_
  refine R_ret 1 (pcr := 18) (v := some (.int (nI (tkN M0 p r)))) (h' := mk M' T) (fun _ => rfl) ?_
  exact ⟨M', x1, rfl, rfl⟩
theorem m_tookOf {ro : xRO} {d : Nat} {M : xM} {T : Nat} {M0 : xM} (h0 : Rel M0) (hf : FM M0 M) {p r : Nat} (hp : p < 8) : Rn ro (d + 4) M_X8_tookBy 0 [some (.ref 64), some (.int (nI p)), some (.int (nI r))] [] (mk M T) (fun rr h => ∃ M', VM M M' ∧ rr = some (.int (nI (tkN M0 p r))) ∧ h = mk M' T) := by
  obtain ⟨a6, a7, a8, a9, a10, -⟩ := fm_pane h0 hf (p := p) hp
  exact m_tookOf_1 h0 hf hp a7 a10
