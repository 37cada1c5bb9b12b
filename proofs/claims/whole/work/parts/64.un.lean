/-! OPERATION loose: both sides -/
theorem Rel.c11 {M : xM} (h : Rel M) {f : Nat → Int32} (hf : ∀ i, i < 6 → f i = M 11 i) : Rel (upA M 11 f) := by
  obtain ⟨P, H, h8, h6, pm, hm, px, hx, a, b1, b2, b3, b4, c2, c3, c4, c5⟩ := rel_all h
  have e : ∀ c, c ≠ 11 → upA M 11 f c = M c := fun c q => upA_ne q
  have e62 := e 62 (by omega)
  have e1 := e 1 (by omega)
  have p2 := h.1.2
  refine h.now (fun c x y => e c (by omega)) (fun j _ => by rw [e62]) ?_ ?_ ?_ ?_ ?_ P H ?_ ?_ ?_ ?_ ?_
  · unfold hsA; rw [e62, e1]; exact h.1.1.1
  · intro p j hp hj; rw [e62, e _ (by omega)]; exact b1 p j hp hj
  · intro i hi; rw [e62, show upA M 11 f (1 + 10) i = f i from congrFun upA_eq i, hf i hi]; exact b2 i hi
  · intro i hi; rw [e62, e _ (by omega)]; exact b3 i hi
  · intro i hi; rw [e62, e _ (by omega)]; exact b4 i hi
  · unfold rwA; rw [e62]; exact ⟨pm, h8, hm, h6⟩
  · unfold rwB; rw [e62]; exact c2
  · intro p hp; rw [e62]; exact c3 p hp
  · intro p hp; rw [e62]; exact c4 p hp
  · intro i hi; rw [e62]; exact c5 i hi
set_option maxRecDepth 100000 in
set_option maxHeartbeats 4000000 in
theorem x_loose_b {ro : xRO} {d : Nat} {M : xM} {T : Nat} {v : Int32} (hv : ¬ (1 ≤ v ∧ v ≤ 30)) : Rn ro (d + 90) M_X7_loose 0 [some (.ref 3), some (.int v), none] [] (mk M T) (fun r h => r = some (.int (-1000000001)) ∧ h = mk (up M 60 1 (M 60 1 + 1)) T) := by
  refine R_go 3 (pc' := 4) (L' := [some (.ref 3), some (.int v), none]) (st' := [.int 30, .int 1, .int v]) (h' := mk M T) (fun _ => rfl) ?_
  refine R_call2 (i := .invokestatic 78) (kd := 1) (y := M_X7_within) (as := [.int v, .int 1, .int 30]) (r := []) (L0 := [some (.int v), some (.int 1), some (.int 30)]) (v1 := some (.int 1)) (v2 := some (.int 0)) (h1' := mk M T) (h2' := mk M T) (pc' := 7) (st1 := [.int 1]) (st2 := [.int 0]) rfl rfl rfl rfl rfl rfl (c_within) (fun g1 => ?_) (fun g1 => ?_)
  · exact absurd g1 (hv)
  · refine R_go 3 (pc' := 12) (L' := [some (.ref 3), some (.int v), none]) (st' := [.int 1, .ref 3]) (h' := mk M T) (fun _ => rfl) ?_
    refine R_callD (i := .invokevirtual 75) (kd := 0) (y := M_X7_error) (as := [.ref 3, .int 1]) (r := []) (L0 := [some (.ref 3), some (.int 1)]) (v := some (.int (-1000000001))) (h' := mk (up M 60 1 (M 60 1 + 1)) T) (pc' := 15) (st' := [.int (-1000000001)]) rfl rfl rfl rfl rfl rfl (c_error_1) ?_
    refine R_ret 1 (pcr := 15) (v := some (.int (-1000000001))) (h' := mk (up M 60 1 (M 60 1 + 1)) T) (fun _ => rfl) ?_
    exact ⟨rfl, rfl⟩
set_option maxRecDepth 100000 in
set_option maxHeartbeats 4000000 in
theorem m_loose_b {ro : xRO} {d : Nat} {M : xM} {T : Nat} {v : Int32} (hv : ¬ (1 ≤ v ∧ v ≤ 30)) : Rn ro (d + 90) M_X8_loose 0 [some (.ref 64), some (.int v), none] [] (mk M T) (fun r h => r = some (.int (-1000000001)) ∧ h = mk (up M 64 1 (M 64 1 + 1)) T) := by
  refine R_go 3 (pc' := 4) (L' := [some (.ref 64), some (.int v), none]) (st' := [.int 30, .int 1, .int v]) (h' := mk M T) (fun _ => rfl) ?_
  refine R_call2 (i := .invokestatic 53) (kd := 1) (y := M_X8_in) (as := [.int v, .int 1, .int 30]) (r := []) (L0 := [some (.int v), some (.int 1), some (.int 30)]) (v1 := some (.int 1)) (v2 := some (.int 0)) (h1' := mk M T) (h2' := mk M T) (pc' := 7) (st1 := [.int 1]) (st2 := [.int 0]) rfl rfl rfl rfl rfl rfl (m_in) (fun g1 => ?_) (fun g1 => ?_)
  · exact absurd g1 (hv)
  · refine R_go 3 (pc' := 13) (L' := [some (.ref 64), some (.int v), none]) (st' := [.int (-1000000001), .ref 64]) (h' := mk M T) (fun _ => rfl) ?_
    refine R_callD (i := .invokevirtual 81) (kd := 0) (y := M_X8_error) (as := [.ref 64, .int (-1000000001)]) (r := []) (L0 := [some (.ref 64), some (.int (-1000000001))]) (v := some (.int (-1000000001))) (h' := mk (up M 64 1 (M 64 1 + 1)) T) (pc' := 16) (st' := [.int (-1000000001)]) rfl rfl rfl rfl rfl rfl (m_error_1) ?_
    refine R_ret 1 (pcr := 16) (v := some (.int (-1000000001))) (h' := mk (up M 64 1 (M 64 1 + 1)) T) (fun _ => rfl) ?_
    exact ⟨rfl, rfl⟩
set_option maxRecDepth 100000 in
set_option maxHeartbeats 4000000 in
theorem x_loose_f {ro : xRO} {d : Nat} {M : xM} {T : Nat} {n nt : Nat} (n1 : 1 ≤ n) (n30 : n ≤ 30) (nt9 : nt ≤ 9999) (hnt : M 1 14 = nI nt) (hf : 9999 < nt + n) : Rn ro (d + 90) M_X7_loose 0 [some (.ref 3), some (.int (nI n)), none] [] (mk M T) (fun r h => r = some (.int (-1000000003)) ∧ h = mk (up M 60 3 (M 60 3 + 1)) T) := by
  refine R_go 3 (pc' := 4) (L' := [some (.ref 3), some (.int (nI n)), none]) (st' := [.int 30, .int 1, .int (nI n)]) (h' := mk M T) (fun _ => rfl) ?_
  refine R_call2 (i := .invokestatic 78) (kd := 1) (y := M_X7_within) (as := [.int (nI n), .int 1, .int 30]) (r := []) (L0 := [some (.int (nI n)), some (.int 1), some (.int 30)]) (v1 := some (.int 1)) (v2 := some (.int 0)) (h1' := mk M T) (h2' := mk M T) (pc' := 7) (st1 := [.int 1]) (st2 := [.int 0]) rfl rfl rfl rfl rfl rfl (c_within) (fun g1 => ?_) (fun g1 => ?_)
  · refine R_go 4 (pc' := 23) (L' := [some (.ref 3), some (.int (nI n)), none]) (st' := [.int (M 1 14)]) (h' := mk M T) (fun _ => rfl) ?_
    refine R_top (y := nI nt) (hnt) ?_
    refine R_go 2 (pc' := 25) (L' := [some (.ref 3), some (.int (nI n)), none]) (st' := [.int (nI nt + nI n)]) (h' := mk M T) (fun _ => rfl) ?_
    refine R_top (nI_add nt n) ?_
    refine R_if 2 (c := (nI (nt + n)) ≤ 9999) (t := 37) (f := 31) (L' := [some (.ref 3), some (.int (nI n)), none]) (st' := []) (h' := mk M T) (fun _ => rfl) (fun g2 => ?_) (fun g2 => ?_)
    · replace g2 : (nt + n) ≤ 9999 := (nI_leI (a := nt + n) (b := 9999) (by omega) (by omega)).mp g2
      omega
    · replace g2 : ¬ (nt + n) ≤ 9999 := fun q => g2 ((nI_leI (a := nt + n) (b := 9999) (by omega) (by omega)).mpr q)
      refine R_go 2 (pc' := 33) (L' := [some (.ref 3), some (.int (nI n)), none]) (st' := [.int 3, .ref 3]) (h' := mk M T) (fun _ => rfl) ?_
      refine R_callD (i := .invokevirtual 75) (kd := 0) (y := M_X7_error) (as := [.ref 3, .int 3]) (r := []) (L0 := [some (.ref 3), some (.int 3)]) (v := some (.int (-1000000003))) (h' := mk (up M 60 3 (M 60 3 + 1)) T) (pc' := 36) (st' := [.int (-1000000003)]) rfl rfl rfl rfl rfl rfl (c_error_3) ?_
      refine R_ret 1 (pcr := 36) (v := some (.int (-1000000003))) (h' := mk (up M 60 3 (M 60 3 + 1)) T) (fun _ => rfl) ?_
      exact ⟨rfl, rfl⟩
  · exact absurd (nI_in2 (a := 1) (b := 30) n1 n30 (by omega)) g1
set_option maxRecDepth 100000 in
set_option maxHeartbeats 4000000 in
theorem m_loose_f {ro : xRO} {d : Nat} {M : xM} {T : Nat} {n nt : Nat} (n1 : 1 ≤ n) (n30 : n ≤ 30) (nt9 : nt ≤ 9999) (hnt : M 62 3 = nI nt) (hf : 9999 < nt + n) : Rn ro (d + 90) M_X8_loose 0 [some (.ref 64), some (.int (nI n)), none] [] (mk M T) (fun r h => r = some (.int (-1000000003)) ∧ h = mk (up M 64 3 (M 64 3 + 1)) T) := by
  refine R_go 3 (pc' := 4) (L' := [some (.ref 64), some (.int (nI n)), none]) (st' := [.int 30, .int 1, .int (nI n)]) (h' := mk M T) (fun _ => rfl) ?_
  refine R_call2 (i := .invokestatic 53) (kd := 1) (y := M_X8_in) (as := [.int (nI n), .int 1, .int 30]) (r := []) (L0 := [some (.int (nI n)), some (.int 1), some (.int 30)]) (v1 := some (.int 1)) (v2 := some (.int 0)) (h1' := mk M T) (h2' := mk M T) (pc' := 7) (st1 := [.int 1]) (st2 := [.int 0]) rfl rfl rfl rfl rfl rfl (m_in) (fun g1 => ?_) (fun g1 => ?_)
  · refine R_go 5 (pc' := 23) (L' := [some (.ref 64), some (.int (nI n)), none]) (st' := [.int (M 62 3)]) (h' := mk M T) (fun _ => rfl) ?_
    refine R_top (y := nI nt) (hnt) ?_
    refine R_go 2 (pc' := 25) (L' := [some (.ref 64), some (.int (nI n)), none]) (st' := [.int (nI nt + nI n)]) (h' := mk M T) (fun _ => rfl) ?_
    refine R_top (nI_add nt n) ?_
    refine R_if 2 (c := (nI (nt + n)) ≤ 9999) (t := 38) (f := 31) (L' := [some (.ref 64), some (.int (nI n)), none]) (st' := []) (h' := mk M T) (fun _ => rfl) (fun g2 => ?_) (fun g2 => ?_)
    · replace g2 : (nt + n) ≤ 9999 := (nI_leI (a := nt + n) (b := 9999) (by omega) (by omega)).mp g2
      omega
    · replace g2 : ¬ (nt + n) ≤ 9999 := fun q => g2 ((nI_leI (a := nt + n) (b := 9999) (by omega) (by omega)).mpr q)
      refine R_go 2 (pc' := 34) (L' := [some (.ref 64), some (.int (nI n)), none]) (st' := [.int (-1000000003), .ref 64]) (h' := mk M T) (fun _ => rfl) ?_
      refine R_callD (i := .invokevirtual 81) (kd := 0) (y := M_X8_error) (as := [.ref 64, .int (-1000000003)]) (r := []) (L0 := [some (.ref 64), some (.int (-1000000003))]) (v := some (.int (-1000000003))) (h' := mk (up M 64 3 (M 64 3 + 1)) T) (pc' := 37) (st' := [.int (-1000000003)]) rfl rfl rfl rfl rfl rfl (m_error_3) ?_
      refine R_ret 1 (pcr := 37) (v := some (.int (-1000000003))) (h' := mk (up M 64 3 (M 64 3 + 1)) T) (fun _ => rfl) ?_
      exact ⟨rfl, rfl⟩
  · exact absurd (nI_in2 (a := 1) (b := 30) n1 n30 (by omega)) g1
def LO (V M M1 : xM) : Prop := M1 1 = V 1 ∧ (∀ j, j < 6 → M1 11 j = V 11 j) ∧ ∀ c, c ≠ 1 → c ≠ 11 → ¬ sIr c → M1 c = M c
set_option maxRecDepth 100000 in
set_option maxHeartbeats 4000000 in
theorem x_loose_T {ro : xRO} {d : Nat} {M : xM} {T : Nat} {n nt : Nat} (n1 : 1 ≤ n) (n30 : n ≤ 30) (nt9 : nt ≤ 9999) (h0 : Rel M) {P : Nat} (pm : M 62 6 = nI P) (h8 : P ≤ 8) (hnt62 : M 62 3 = nI nt) (hnt : M 1 14 = nI nt) (hf : nt + n ≤ 9999) : Rn ro (d + 90) M_X7_loose 0 [some (.ref 3), some (.int (nI n)), none] [] (mk M T) (fun rr h => ∃ M', LO (nights M P n) M M' ∧ rr = some (.int (nights M P n 1 10)) ∧ h = mk M' T) := by
  refine R_go 3 (pc' := 4) (L' := [some (.ref 3), some (.int (nI n)), none]) (st' := [.int 30, .int 1, .int (nI n)]) (h' := mk M T) (fun _ => rfl) ?_
  refine R_call2 (i := .invokestatic 78) (kd := 1) (y := M_X7_within) (as := [.int (nI n), .int 1, .int 30]) (r := []) (L0 := [some (.int (nI n)), some (.int 1), some (.int 30)]) (v1 := some (.int 1)) (v2 := some (.int 0)) (h1' := mk M T) (h2' := mk M T) (pc' := 7) (st1 := [.int 1]) (st2 := [.int 0]) rfl rfl rfl rfl rfl rfl (c_within) (fun x1 => ?_) (fun x1 => ?_)
  · refine R_go 4 (pc' := 23) (L' := [some (.ref 3), some (.int (nI n)), none]) (st' := [.int (M 1 14)]) (h' := mk M T) (fun _ => rfl) ?_
    refine R_top (y := nI nt) (hnt) ?_
    refine R_go 2 (pc' := 25) (L' := [some (.ref 3), some (.int (nI n)), none]) (st' := [.int (nI nt + nI n)]) (h' := mk M T) (fun _ => rfl) ?_
    refine R_top (nI_add nt n) ?_
    refine R_if 2 (c := (nI (nt + n)) ≤ 9999) (t := 37) (f := 31) (L' := [some (.ref 3), some (.int (nI n)), none]) (st' := []) (h' := mk M T) (fun _ => rfl) (fun x2 => ?_) (fun x2 => ?_)
    · replace x2 : (nt + n) ≤ 9999 := (nI_leI (a := nt + n) (b := 9999) (by omega) (by omega)).mp x2
      refine R_go 2 (pc' := 41) (L' := [some (.ref 3), some (.int (nI n)), none]) (st' := [.ref 42]) (h' := mk M T) (fun _ => rfl) ?_
      refine R_callE (i := .invokevirtual 195) (kd := 0) (y := M_X3_forget) (as := [.ref 42]) (r := []) (L0 := [some (.ref 42)]) (v := fun M1 => none) (h' := fun M1 => mk M1 T) (pc' := 44) (st' := fun M1 => []) rfl rfl rfl rfl rfl rfl (c_forget (M0 := M)) (fun M1 x3 => ?_)
      obtain ⟨fo1, me1⟩ := x3
      refine R_go 2 (pc' := 48) (L' := [some (.ref 3), some (.int (nI n)), none]) (st' := [.ref 42]) (h' := mk M1 T) (fun _ => rfl) ?_
      refine R_callE (i := .invokevirtual 201) (kd := 0) (y := M_X3_takeNumbers) (as := [.ref 42]) (r := []) (L0 := [some (.ref 42), none]) (v := fun M2 => none) (h' := fun M2 => mk M2 T) (pc' := 51) (st' := fun M2 => []) rfl rfl rfl rfl rfl rfl (c_takeN) (fun M2 x4 => ?_)
      have xt := x4
      refine R_go 2 (pc' := 53) (L' := [some (.ref 3), some (.int (nI n)), some (.int 0)]) (st' := []) (h' := mk M2 T) (fun _ => rfl) ?_
      have fr : ∀ c, c ≠ 40 → c ≠ 41 → c ≠ 42 → M2 c = M c := fun c a b e => (xt.1 c e).trans (fo1 c a b)
      refine (lp_x_loose (T := T) (d := d) h0 (Mb := M2) pm h8 hnt62 hf n30 n 0 M2 (Nat.zero_add n) ⟨fun c a b e f => fr c (by omega) (by omega) (by omega), fr 1 (by omega) (by omega) (by omega), fun j _ => congrFun (fr 11 (by omega) (by omega) (by omega)) j, me1.frame (xt.1 40 (by omega)) (xt.1 41 (by omega)), xt.2, fun _ _ _ _ _ _ _ _ => rfl⟩).imp (fun _ _ q => ?_)
      obtain ⟨M', ⟨q1, q2, q3, q4, q5, q6⟩, q7, q8⟩ := q
      exact ⟨M', ⟨q2, q3, fun c a b hc => by unfold sIr at hc; exact (q6 c a b (by omega) (by omega) (by omega) (by omega) (by omega)).trans (fr c (by omega) (by omega) (by omega))⟩, q7, q8⟩
    · replace x2 : ¬ (nt + n) ≤ 9999 := fun q => x2 ((nI_leI (a := nt + n) (b := 9999) (by omega) (by omega)).mpr q)
      omega
  · exact absurd (nI_in2 (a := 1) (b := 30) n1 n30 (by omega)) x1
set_option maxRecDepth 100000 in
set_option maxHeartbeats 4000000 in
theorem m_loose_T {ro : xRO} {d : Nat} {M : xM} {T : Nat} {n nt : Nat} (n1 : 1 ≤ n) (n30 : n ≤ 30) (nt9 : nt ≤ 9999) {V0 : xM} (h0 : Rel V0) (hV : M 62 = V0 62) (hB : M 61 7 = 0) {P : Nat} (pm : V0 62 6 = nI P) (h8 : P ≤ 8) (hnt62 : V0 62 3 = nI nt) (hnt : M 62 3 = nI nt) (hf : nt + n ≤ 9999) : Rn ro (d + 90) M_X8_loose 0 [some (.ref 64), some (.int (nI n)), none] [] (mk M T) (fun rr h => ∃ M', (M' 62 = nights V0 P n 62 ∧ ∀ c, c ≠ 62 → ¬ sIr c → M' c = M c) ∧ rr = some (.int (nights V0 P n 62 4)) ∧ h = mk M' T) := by
  refine R_go 3 (pc' := 4) (L' := [some (.ref 64), some (.int (nI n)), none]) (st' := [.int 30, .int 1, .int (nI n)]) (h' := mk M T) (fun _ => rfl) ?_
  refine R_call2 (i := .invokestatic 53) (kd := 1) (y := M_X8_in) (as := [.int (nI n), .int 1, .int 30]) (r := []) (L0 := [some (.int (nI n)), some (.int 1), some (.int 30)]) (v1 := some (.int 1)) (v2 := some (.int 0)) (h1' := mk M T) (h2' := mk M T) (pc' := 7) (st1 := [.int 1]) (st2 := [.int 0]) rfl rfl rfl rfl rfl rfl (m_in) (fun x1 => ?_) (fun x1 => ?_)
  · refine R_go 5 (pc' := 23) (L' := [some (.ref 64), some (.int (nI n)), none]) (st' := [.int (M 62 3)]) (h' := mk M T) (fun _ => rfl) ?_
    refine R_top (y := nI nt) (hnt) ?_
    refine R_go 2 (pc' := 25) (L' := [some (.ref 64), some (.int (nI n)), none]) (st' := [.int (nI nt + nI n)]) (h' := mk M T) (fun _ => rfl) ?_
    refine R_top (nI_add nt n) ?_
    refine R_if 2 (c := (nI (nt + n)) ≤ 9999) (t := 38) (f := 31) (L' := [some (.ref 64), some (.int (nI n)), none]) (st' := []) (h' := mk M T) (fun _ => rfl) (fun x2 => ?_) (fun x2 => ?_)
    · replace x2 : (nt + n) ≤ 9999 := (nI_leI (a := nt + n) (b := 9999) (by omega) (by omega)).mp x2
      refine R_go 1 (pc' := 39) (L' := [some (.ref 64), some (.int (nI n)), none]) (st' := [.ref 64]) (h' := mk M T) (fun _ => rfl) ?_
      refine R_callE (i := .invokevirtual 184) (kd := 0) (y := M_X8_byNumbers) (as := [.ref 64]) (r := []) (L0 := [some (.ref 64), none]) (v := fun M2 => none) (h' := fun M2 => mk M2 T) (pc' := 42) (st' := fun M2 => []) rfl rfl rfl rfl rfl rfl (c_bynN) (fun M2 x3 => ?_)
      have xt := x3
      refine R_go 2 (pc' := 44) (L' := [some (.ref 64), some (.int (nI n)), some (.int 0)]) (st' := []) (h' := mk M2 T) (fun _ => rfl) ?_
      refine (lp_m_loose (T := T) (d := d) h0 (Mb := M2) pm h8 hnt62 hf n30 n 0 M2 (Nat.zero_add n) ⟨(xt.1 62 (by omega)).trans hV, xt.2, (congrFun (xt.1 61 (by omega)) 7).trans hB, fun _ _ _ _ _ => rfl⟩).imp (fun _ _ q => ?_)
      obtain ⟨M', ⟨q1, q2, q3, q4⟩, q7, q8⟩ := q
      exact ⟨M', ⟨q1, fun c a hc => by unfold sIr at hc; exact (q4 c a (by omega) (by omega) (by omega)).trans (xt.1 c (by omega))⟩, q7, q8⟩
    · replace x2 : ¬ (nt + n) ≤ 9999 := fun q => x2 ((nI_leI (a := nt + n) (b := 9999) (by omega) (by omega)).mpr q)
      omega
  · exact absurd (nI_in2 (a := 1) (b := 30) n1 n30 (by omega)) x1
set_option maxHeartbeats 4000000 in
theorem op_loose {ro : xRO} {M : xM} {T : Nat} (h : Rel M) {v : Int32} : OpOK ro M_X7_loose M_X8_loose [some (.ref 3), some (.int v), none] [some (.ref 64), some (.int v), none] M T := by
  obtain ⟨P, H, h8, h6, pm, hm, px, hx, a, b1, b2, b3, b4, c2, c3, c4, c5⟩ := rel_all h
  obtain ⟨nt, nt9, hnt⟩ := c2.2.2.2.2.2.1
  have hntx : M 1 14 = nI nt := a.2.2.2.2.2.2.1.trans hnt
  have hc : (∃ n, 1 ≤ n ∧ n ≤ 30 ∧ v = nI n) ∨ ¬ (1 ≤ v ∧ v ≤ 30) := by
    rcases of_in v (b := 30) (by omega) with ⟨n, hn, rfl⟩ | q
    · by_cases n1 : 1 ≤ n
      · exact Or.inl ⟨n, n1, hn, rfl⟩
      · exact Or.inr (fun q => n1 ((nI_leI (a := 1) (by omega) (by omega)).mp q.1))
    · exact Or.inr (fun z => q ⟨by grind, z.2⟩)
  rcases hc with ⟨n, n1, n30, rfl⟩ | hv
  · rcases Nat.lt_or_ge 9999 (nt + n) with hf | hf
    · exact OpOK.of (fun d => x_loose_f n1 n30 nt9 hntx hf) (fun d => m_loose_f (M := up M 60 3 (M 60 3 + 1)) n1 n30 nt9 hnt hf) rfl (h.err 3 (by omega))
    · obtain ⟨v1, v2, v3, v4⟩ := nights_ok h pm h8 hnt hf n (Nat.le_refl n)
      refine OpOK.ofE (A := fun v M1 => LO (nights M P n) M M1 ∧ v = nights M P n 1 10) ?_ ?_
      · refine (x_loose_T n1 n30 nt9 h pm h8 hnt hntx hf).imp (fun _ _ q => ?_)
        obtain ⟨M', q1, q2, q3⟩ := q
        exact ⟨(_, M'), ⟨q1, rfl⟩, q2, q3⟩
      · intro v M1 hA
        obtain ⟨⟨f1, f2, f3⟩, rfl⟩ := hA
        have e62 := f3 62 (by omega) (by omega) (by unfold sIr; omega)
        have e61 := congrFun (f3 61 (by omega) (by omega) (by unfold sIr; omega)) 7
        refine (m_loose_T (M := M1) n1 n30 nt9 h e62 (e61.trans h.2.2.2.2.2) pm h8 hnt (by rw [e62]; exact hnt) hf).imp (fun _ _ q => ?_)
        obtain ⟨M', ⟨q1, q2⟩, q3, q4⟩ := q
        refine ⟨M', ?_, by rw [q3]; exact congrArg (fun z => some (Value.int z)) v1.1.1.1.2.2.2.2.1.symm, q4⟩
        refine FS_rel (v1.c11 (f := M1 11) f2) (fun c hc => ?_)
        by_cases k62 : c = 62
        · rw [k62, q1, upA_ne (by omega)]
        · rw [q2 c k62 hc]
          by_cases k1 : c = 1
          · rw [k1, f1, upA_ne (by omega)]
          · by_cases k11 : c = 11
            · rw [k11, upA_eq]
            · rw [f3 c k1 k11 hc, upA_ne k11, v4 c k1 k11 k62]
  · exact OpOK.of (fun d => x_loose_b hv) (fun d => m_loose_b (M := up M 60 1 (M 60 1 + 1)) hv) rfl (h.err 1 (by omega))
