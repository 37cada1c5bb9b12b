/-! OPERATION breath: both sides -/
def ansB (u : Nat) (s : Nat) : Int32 := if u = 0 then nI (bc s) else nI s
theorem FC_hf {M0 M M' : xM} (h : FC M0 M) (e : ∀ c, 1 ≤ c → c ≤ 18 → c ≠ 11 → c ≠ 16 → M' c = M c) : FC M0 M' := ⟨fun c a b d f => (e c (by omega) b d f).trans (h.1 c a b d f), fun j a b => (congrFun (e 1 (by omega) (by omega) (by omega) (by omega)) j).trans (h.2 j a b)⟩
set_option maxRecDepth 100000 in
set_option maxHeartbeats 4000000 in
theorem xb_n0 {ro : xRO} {d : Nat} {M : xM} {T : Nat} {Q : Option Value → xH → Prop} {heir v : Nat} (k1 : Q (some (.int (-1000000002))) (mk (up M 60 2 (M 60 2 + 1)) T)) : Rn ro (d + 90) M_X7_breath 49 [some (.ref 3), some (.int (nI heir)), some (.int (nI v)), some (.int 0), none] [.int (-1)] (mk M T) Q := by
  refine R_go 5 (pc' := 58) (L' := [some (.ref 3), some (.int (nI heir)), some (.int (nI v)), some (.int 0), some (.int (-1))]) (st' := [.int 2, .ref 3]) (h' := mk M T) (fun _ => rfl) ?_
  refine R_callD (i := .invokevirtual 75) (kd := 0) (y := M_X7_error) (as := [.ref 3, .int 2]) (r := []) (L0 := [some (.ref 3), some (.int 2)]) (v := some (.int (-1000000002))) (h' := mk (up M 60 2 (M 60 2 + 1)) T) (pc' := 61) (st' := [.int (-1000000002)]) rfl rfl rfl rfl rfl rfl (c_error_2) ?_
  refine R_ret 1 (pcr := 61) (v := some (.int (-1000000002))) (h' := mk (up M 60 2 (M 60 2 + 1)) T) (fun _ => rfl) ?_
  exact k1
set_option maxRecDepth 100000 in
set_option maxHeartbeats 4000000 in
theorem xb_s0 {ro : xRO} {d : Nat} {M : xM} {T : Nat} {Q : Option Value → xH → Prop} {heir v : Nat} {s : Nat} (hs : s < 256) (k1 : Q (some (.int (nI (bc s)))) (mk (M) T)) : Rn ro (d + 90) M_X7_breath 49 [some (.ref 3), some (.int (nI heir)), some (.int (nI v)), some (.int 0), none] [.int (nI s)] (mk M T) Q := by
  refine R_if 3 (c := 0 ≤ (nI s)) (t := 62) (f := 56) (L' := [some (.ref 3), some (.int (nI heir)), some (.int (nI v)), some (.int 0), some (.int (nI s))]) (st' := []) (h' := mk M T) (fun _ => rfl) (fun g1 => ?_) (fun g1 => ?_)
  · replace g1 : 0 ≤ s := (nI_leI (a := 0) (b := s) (by omega) (by omega)).mp g1
    refine R_go 3 (pc' := 68) (L' := [some (.ref 3), some (.int (nI heir)), some (.int (nI v)), some (.int 0), some (.int (nI s))]) (st' := [.int (nI s)]) (h' := mk M T) (fun _ => rfl) ?_
    refine R_callD (i := .invokestatic 232) (kd := 1) (y := M_J6_bitCount_0f7a4) (as := [.int (nI s)]) (r := []) (L0 := [some (.int (nI s))]) (v := some (.int (nI (bc s)))) (h' := mk M T) (pc' := 71) (st' := [.int (nI (bc s))]) rfl rfl rfl rfl rfl rfl (c_bitCount (s := s) (by omega)) ?_
    refine R_ret 2 (pcr := 76) (v := some (.int (nI (bc s)))) (h' := mk M T) (fun _ => rfl) ?_
    exact k1
  · replace g1 : ¬ 0 ≤ s := fun q => g1 ((nI_leI (a := 0) (b := s) (by omega) (by omega)).mpr q)
    omega
set_option maxRecDepth 100000 in
set_option maxHeartbeats 4000000 in
theorem x_breath_0 {ro : xRO} {d : Nat} {M : xM} {T : Nat} {H : Nat} (hH : M 1 7 = nI H) (h6 : H ≤ 6) {heir : Nat} (hh : heir < H) (h0 : Rel M) {P : Nat} (pm : M 62 6 = nI P) (h8 : P ≤ 8) {v : Nat} (v9 : v ≤ 99999) : Rn ro (d + 90) M_X7_breath 0 [some (.ref 3), some (.int (nI heir)), some (.int (nI v)), some (.int 0), none] [] (mk M T) (fun rr h => ∃ p : Int32 × xM, (∃ b M', isB (gnS M P heir) v (2 ^ P) b ∧ FS M M' ∧ ((b = none ∧ p.2 = up M' 60 2 (M' 60 2 + 1) ∧ p.1 = -1000000002) ∨ ∃ s, b = some s ∧ p.2 = M' ∧ p.1 = ansB 0 s)) ∧ rr = some (.int p.1) ∧ h = mk p.2 T) := by
  refine R_go 3 (pc' := 5) (L' := [some (.ref 3), some (.int (nI heir)), some (.int (nI v)), some (.int 0), none]) (st' := [.int (nI heir), .ref 4]) (h' := mk M T) (fun _ => rfl) ?_
  refine R_call2 (i := .invokevirtual 82) (kd := 0) (y := M_X0_hasHeir) (as := [.ref 4, .int (nI heir)]) (r := []) (L0 := [some (.ref 4), some (.int (nI heir))]) (v1 := some (.int 1)) (v2 := some (.int 0)) (h1' := mk M T) (h2' := mk M T) (pc' := 8) (st1 := [.int 1]) (st2 := [.int 0]) rfl rfl rfl rfl rfl rfl (c_hasHeir hH h6) (fun x1 => ?_) (fun x1 => ?_)
  · refine R_go 4 (pc' := 15) (L' := [some (.ref 3), some (.int (nI heir)), some (.int (nI v)), some (.int 0), none]) (st' := [.int 99999, .int 0, .int (nI v)]) (h' := mk M T) (fun _ => rfl) ?_
    refine R_call2 (i := .invokestatic 78) (kd := 1) (y := M_X7_within) (as := [.int (nI v), .int 0, .int 99999]) (r := []) (L0 := [some (.int (nI v)), some (.int 0), some (.int 99999)]) (v1 := some (.int 1)) (v2 := some (.int 0)) (h1' := mk M T) (h2' := mk M T) (pc' := 18) (st1 := [.int 1]) (st2 := [.int 0]) rfl rfl rfl rfl rfl rfl (c_within) (fun x2 => ?_) (fun x2 => ?_)
    · refine R_go 4 (pc' := 24) (L' := [some (.ref 3), some (.int (nI heir)), some (.int (nI v)), some (.int 0), none]) (st' := [.int 1, .int 0, .int 0]) (h' := mk M T) (fun _ => rfl) ?_
      refine R_call2 (i := .invokestatic 78) (kd := 1) (y := M_X7_within) (as := [.int 0, .int 0, .int 1]) (r := []) (L0 := [some (.int 0), some (.int 0), some (.int 1)]) (v1 := some (.int 1)) (v2 := some (.int 0)) (h1' := mk M T) (h2' := mk M T) (pc' := 27) (st1 := [.int 1]) (st2 := [.int 0]) rfl rfl rfl rfl rfl rfl (c_within) (fun x3 => ?_) (fun x3 => ?_)
      · refine R_go 7 (pc' := 46) (L' := [some (.ref 3), some (.int (nI heir)), some (.int (nI v)), some (.int 0), none]) (st' := [.int (nI v), .int (nI heir), .ref 4, .ref 42]) (h' := mk M T) (fun _ => rfl) ?_
        refine R_callE (α := xM × Option Nat) (i := .invokevirtual 229) (kd := 0) (y := M_X3_breathFor) (as := [.ref 42, .ref 4, .int (nI heir), .int (nI v)]) (r := []) (L0 := [some (.ref 42), some (.ref 4), some (.int (nI heir)), some (.int (nI v)), none, none]) (v := fun p => some (.int (match p.2 with | none => -1 | some s => nI s))) (h' := fun p => mk p.1 T) (pc' := 49) (st' := fun p => [.int (match p.2 with | none => -1 | some s => nI s)]) rfl rfl rfl rfl rfl rfl (c_breathFor (heir := heir) (v := v) h0 FC_refl pm h8 (by omega) v9) (fun p x4 => ?_)
        have xw := x4
        obtain ⟨M', b⟩ := p
        obtain ⟨f1, hb⟩ := xw
        cases b with
        | none => exact xb_n0 ⟨(_, _), ⟨none, M', hb, f1, Or.inl ⟨rfl, rfl, rfl⟩⟩, rfl, rfl⟩
        | some s => exact xb_s0 (by have := hb.1; have := pw_P h8; omega) ⟨(_, _), ⟨some s, M', hb, f1, Or.inr ⟨s, rfl, rfl, rfl⟩⟩, rfl, rfl⟩
      · exact absurd (by decide) x3
    · exact absurd (nI_in2 (a := 0) (b := 99999) (by omega) (by omega) (by omega)) x2
  · exact absurd (⟨nI_pos' (by omega), nI_lt hh (by omega)⟩) x1
set_option maxRecDepth 100000 in
set_option maxHeartbeats 4000000 in
theorem m_breath_0 {ro : xRO} {d : Nat} {M : xM} {T : Nat} {H : Nat} (hH : M 62 7 = nI H) (h6 : H ≤ 6) {heir : Nat} (hh : heir < H) {M0 : xM} (h0 : Rel M0) (hf : FM M0 M) {P : Nat} (pm : M0 62 6 = nI P) (h8 : P ≤ 8) {v : Nat} (v9 : v ≤ 99999) : Rn ro (d + 90) M_X8_breath 0 [some (.ref 64), some (.int (nI heir)), some (.int (nI v)), some (.int 0), none, none] [] (mk M T) (fun rr h => ∃ b M', isB (gnS M0 P heir) v (2 ^ P) b ∧ ((∀ c, c ≠ 61 → ¬ sIr c → M' c = M c) ∧ (∀ j, j ≠ 7 → M' 61 j = M 61 j) ∧ M' 61 7 = 0) ∧ ((b = none ∧ rr = some (.int (-1000000002)) ∧ h = mk (up M' 64 2 (M' 64 2 + 1)) T) ∨ ∃ s, b = some s ∧ rr = some (.int (ansB 0 s)) ∧ h = mk M' T)) := by
  refine R_go 2 (pc' := 2) (L' := [some (.ref 64), some (.int (nI heir)), some (.int (nI v)), some (.int 0), none, none]) (st' := [.int (nI heir), .ref 64]) (h' := mk M T) (fun _ => rfl) ?_
  refine R_call2 (i := .invokevirtual 88) (kd := 0) (y := M_X8_isHeir) (as := [.ref 64, .int (nI heir)]) (r := []) (L0 := [some (.ref 64), some (.int (nI heir))]) (v1 := some (.int 1)) (v2 := some (.int 0)) (h1' := mk M T) (h2' := mk M T) (pc' := 5) (st1 := [.int 1]) (st2 := [.int 0]) rfl rfl rfl rfl rfl rfl (m_isHeir hH h6) (fun x1 => ?_) (fun x1 => ?_)
  · refine R_go 4 (pc' := 12) (L' := [some (.ref 64), some (.int (nI heir)), some (.int (nI v)), some (.int 0), none, none]) (st' := [.int 99999, .int 0, .int (nI v)]) (h' := mk M T) (fun _ => rfl) ?_
    refine R_call2 (i := .invokestatic 53) (kd := 1) (y := M_X8_in) (as := [.int (nI v), .int 0, .int 99999]) (r := []) (L0 := [some (.int (nI v)), some (.int 0), some (.int 99999)]) (v1 := some (.int 1)) (v2 := some (.int 0)) (h1' := mk M T) (h2' := mk M T) (pc' := 15) (st1 := [.int 1]) (st2 := [.int 0]) rfl rfl rfl rfl rfl rfl (m_in) (fun x2 => ?_) (fun x2 => ?_)
    · refine R_go 4 (pc' := 21) (L' := [some (.ref 64), some (.int (nI heir)), some (.int (nI v)), some (.int 0), none, none]) (st' := [.int 1, .int 0, .int 0]) (h' := mk M T) (fun _ => rfl) ?_
      refine R_call2 (i := .invokestatic 53) (kd := 1) (y := M_X8_in) (as := [.int 0, .int 0, .int 1]) (r := []) (L0 := [some (.int 0), some (.int 0), some (.int 1)]) (v1 := some (.int 1)) (v2 := some (.int 0)) (h1' := mk M T) (h2' := mk M T) (pc' := 24) (st1 := [.int 1]) (st2 := [.int 0]) rfl rfl rfl rfl rfl rfl (m_in) (fun x3 => ?_) (fun x3 => ?_)
      · refine R_go 2 (pc' := 35) (L' := [some (.ref 64), some (.int (nI heir)), some (.int (nI v)), some (.int 0), none, none]) (st' := [.ref 64]) (h' := mk M T) (fun _ => rfl) ?_
        refine R_callE (i := .invokevirtual 184) (kd := 0) (y := M_X8_byNumbers) (as := [.ref 64]) (r := []) (L0 := [some (.ref 64), none]) (v := fun M2 => none) (h' := fun M2 => mk M2 T) (pc' := 38) (st' := fun M2 => []) rfl rfl rfl rfl rfl rfl (c_bynN) (fun M2 x4 => ?_)
        have xt := x4
        refine R_go 4 (pc' := 44) (L' := [some (.ref 64), some (.int (nI heir)), some (.int (nI v)), some (.int 0), some (.int (-1)), some (.int 0)]) (st' := []) (h' := mk M2 T) (fun _ => rfl) ?_
        refine lp_bm (u := 0) (Mb := M2) h0 pm h8 (by omega) v9 rfl (fun M' b hx hb => ?_) (2 ^ P) 0 none M2 (Nat.zero_add _) ⟨FM_72 hf xt.1, xt.2, fun _ _ _ _ _ => rfl, fun _ _ => rfl⟩ (fun s hs => absurd hs (Nat.not_lt_zero s))
        have fr : (∀ c, c ≠ 61 → ¬ sIr c → up M' 61 7 0 c = M c) ∧ (∀ j, j ≠ 7 → up M' 61 7 0 61 j = M 61 j) ∧ up M' 61 7 0 61 7 = 0 := ⟨fun c a hc => by unfold sIr at hc; exact (up_ne a).trans ((hx.2.2.1 c a (by omega) (by omega) (by omega)).trans (xt.1 c (by omega))), fun j a => (up_nj a 61).trans ((hx.2.2.2 j a).trans (congrFun (xt.1 61 (by omega)) j)), up_at⟩
        cases b with
        | none => exact bm_e_none h0 pm h8 (by omega) v9 rfl hx ⟨none, up M' 61 7 0, hb, fr, Or.inl ⟨rfl, rfl, rfl⟩⟩
        | some s => exact bm_e_0 h0 pm h8 (by omega) v9 rfl hx hb.1 ⟨some s, up M' 61 7 0, hb, fr, Or.inr ⟨s, rfl, rfl, rfl⟩⟩
      · exact absurd (by decide) x3
    · exact absurd (nI_in2 (a := 0) (b := 99999) (by omega) (by omega) (by omega)) x2
  · exact absurd (⟨nI_pos' (by omega), nI_lt hh (by omega)⟩) x1
set_option maxRecDepth 100000 in
set_option maxHeartbeats 4000000 in
theorem xb_n1 {ro : xRO} {d : Nat} {M : xM} {T : Nat} {Q : Option Value → xH → Prop} {heir v : Nat} (k1 : Q (some (.int (-1000000002))) (mk (up M 60 2 (M 60 2 + 1)) T)) : Rn ro (d + 90) M_X7_breath 49 [some (.ref 3), some (.int (nI heir)), some (.int (nI v)), some (.int 1), none] [.int (-1)] (mk M T) Q := by
  refine R_go 5 (pc' := 58) (L' := [some (.ref 3), some (.int (nI heir)), some (.int (nI v)), some (.int 1), some (.int (-1))]) (st' := [.int 2, .ref 3]) (h' := mk M T) (fun _ => rfl) ?_
  refine R_callD (i := .invokevirtual 75) (kd := 0) (y := M_X7_error) (as := [.ref 3, .int 2]) (r := []) (L0 := [some (.ref 3), some (.int 2)]) (v := some (.int (-1000000002))) (h' := mk (up M 60 2 (M 60 2 + 1)) T) (pc' := 61) (st' := [.int (-1000000002)]) rfl rfl rfl rfl rfl rfl (c_error_2) ?_
  refine R_ret 1 (pcr := 61) (v := some (.int (-1000000002))) (h' := mk (up M 60 2 (M 60 2 + 1)) T) (fun _ => rfl) ?_
  exact k1
set_option maxRecDepth 100000 in
set_option maxHeartbeats 4000000 in
theorem xb_s1 {ro : xRO} {d : Nat} {M : xM} {T : Nat} {Q : Option Value → xH → Prop} {heir v : Nat} {s : Nat} (hs : s < 256) (k1 : Q (some (.int (nI s))) (mk (M) T)) : Rn ro (d + 90) M_X7_breath 49 [some (.ref 3), some (.int (nI heir)), some (.int (nI v)), some (.int 1), none] [.int (nI s)] (mk M T) Q := by
  refine R_if 3 (c := 0 ≤ (nI s)) (t := 62) (f := 56) (L' := [some (.ref 3), some (.int (nI heir)), some (.int (nI v)), some (.int 1), some (.int (nI s))]) (st' := []) (h' := mk M T) (fun _ => rfl) (fun g1 => ?_) (fun g1 => ?_)
  · replace g1 : 0 ≤ s := (nI_leI (a := 0) (b := s) (by omega) (by omega)).mp g1
    refine R_ret 4 (pcr := 76) (v := some (.int (nI s))) (h' := mk M T) (fun _ => rfl) ?_
    exact k1
  · replace g1 : ¬ 0 ≤ s := fun q => g1 ((nI_leI (a := 0) (b := s) (by omega) (by omega)).mpr q)
    omega
set_option maxRecDepth 100000 in
set_option maxHeartbeats 4000000 in
theorem x_breath_1 {ro : xRO} {d : Nat} {M : xM} {T : Nat} {H : Nat} (hH : M 1 7 = nI H) (h6 : H ≤ 6) {heir : Nat} (hh : heir < H) (h0 : Rel M) {P : Nat} (pm : M 62 6 = nI P) (h8 : P ≤ 8) {v : Nat} (v9 : v ≤ 99999) : Rn ro (d + 90) M_X7_breath 0 [some (.ref 3), some (.int (nI heir)), some (.int (nI v)), some (.int 1), none] [] (mk M T) (fun rr h => ∃ p : Int32 × xM, (∃ b M', isB (gnS M P heir) v (2 ^ P) b ∧ FS M M' ∧ ((b = none ∧ p.2 = up M' 60 2 (M' 60 2 + 1) ∧ p.1 = -1000000002) ∨ ∃ s, b = some s ∧ p.2 = M' ∧ p.1 = ansB 1 s)) ∧ rr = some (.int p.1) ∧ h = mk p.2 T) := by
  refine R_go 3 (pc' := 5) (L' := [some (.ref 3), some (.int (nI heir)), some (.int (nI v)), some (.int 1), none]) (st' := [.int (nI heir), .ref 4]) (h' := mk M T) (fun _ => rfl) ?_
  refine R_call2 (i := .invokevirtual 82) (kd := 0) (y := M_X0_hasHeir) (as := [.ref 4, .int (nI heir)]) (r := []) (L0 := [some (.ref 4), some (.int (nI heir))]) (v1 := some (.int 1)) (v2 := some (.int 0)) (h1' := mk M T) (h2' := mk M T) (pc' := 8) (st1 := [.int 1]) (st2 := [.int 0]) rfl rfl rfl rfl rfl rfl (c_hasHeir hH h6) (fun x1 => ?_) (fun x1 => ?_)
  · refine R_go 4 (pc' := 15) (L' := [some (.ref 3), some (.int (nI heir)), some (.int (nI v)), some (.int 1), none]) (st' := [.int 99999, .int 0, .int (nI v)]) (h' := mk M T) (fun _ => rfl) ?_
    refine R_call2 (i := .invokestatic 78) (kd := 1) (y := M_X7_within) (as := [.int (nI v), .int 0, .int 99999]) (r := []) (L0 := [some (.int (nI v)), some (.int 0), some (.int 99999)]) (v1 := some (.int 1)) (v2 := some (.int 0)) (h1' := mk M T) (h2' := mk M T) (pc' := 18) (st1 := [.int 1]) (st2 := [.int 0]) rfl rfl rfl rfl rfl rfl (c_within) (fun x2 => ?_) (fun x2 => ?_)
    · refine R_go 4 (pc' := 24) (L' := [some (.ref 3), some (.int (nI heir)), some (.int (nI v)), some (.int 1), none]) (st' := [.int 1, .int 0, .int 1]) (h' := mk M T) (fun _ => rfl) ?_
      refine R_call2 (i := .invokestatic 78) (kd := 1) (y := M_X7_within) (as := [.int 1, .int 0, .int 1]) (r := []) (L0 := [some (.int 1), some (.int 0), some (.int 1)]) (v1 := some (.int 1)) (v2 := some (.int 0)) (h1' := mk M T) (h2' := mk M T) (pc' := 27) (st1 := [.int 1]) (st2 := [.int 0]) rfl rfl rfl rfl rfl rfl (c_within) (fun x3 => ?_) (fun x3 => ?_)
      · refine R_go 7 (pc' := 46) (L' := [some (.ref 3), some (.int (nI heir)), some (.int (nI v)), some (.int 1), none]) (st' := [.int (nI v), .int (nI heir), .ref 4, .ref 42]) (h' := mk M T) (fun _ => rfl) ?_
        refine R_callE (α := xM × Option Nat) (i := .invokevirtual 229) (kd := 0) (y := M_X3_breathFor) (as := [.ref 42, .ref 4, .int (nI heir), .int (nI v)]) (r := []) (L0 := [some (.ref 42), some (.ref 4), some (.int (nI heir)), some (.int (nI v)), none, none]) (v := fun p => some (.int (match p.2 with | none => -1 | some s => nI s))) (h' := fun p => mk p.1 T) (pc' := 49) (st' := fun p => [.int (match p.2 with | none => -1 | some s => nI s)]) rfl rfl rfl rfl rfl rfl (c_breathFor (heir := heir) (v := v) h0 FC_refl pm h8 (by omega) v9) (fun p x4 => ?_)
        have xw := x4
        obtain ⟨M', b⟩ := p
        obtain ⟨f1, hb⟩ := xw
        cases b with
        | none => exact xb_n1 ⟨(_, _), ⟨none, M', hb, f1, Or.inl ⟨rfl, rfl, rfl⟩⟩, rfl, rfl⟩
        | some s => exact xb_s1 (by have := hb.1; have := pw_P h8; omega) ⟨(_, _), ⟨some s, M', hb, f1, Or.inr ⟨s, rfl, rfl, rfl⟩⟩, rfl, rfl⟩
      · exact absurd (by decide) x3
    · exact absurd (nI_in2 (a := 0) (b := 99999) (by omega) (by omega) (by omega)) x2
  · exact absurd (⟨nI_pos' (by omega), nI_lt hh (by omega)⟩) x1
set_option maxRecDepth 100000 in
set_option maxHeartbeats 4000000 in
theorem m_breath_1 {ro : xRO} {d : Nat} {M : xM} {T : Nat} {H : Nat} (hH : M 62 7 = nI H) (h6 : H ≤ 6) {heir : Nat} (hh : heir < H) {M0 : xM} (h0 : Rel M0) (hf : FM M0 M) {P : Nat} (pm : M0 62 6 = nI P) (h8 : P ≤ 8) {v : Nat} (v9 : v ≤ 99999) : Rn ro (d + 90) M_X8_breath 0 [some (.ref 64), some (.int (nI heir)), some (.int (nI v)), some (.int 1), none, none] [] (mk M T) (fun rr h => ∃ b M', isB (gnS M0 P heir) v (2 ^ P) b ∧ ((∀ c, c ≠ 61 → ¬ sIr c → M' c = M c) ∧ (∀ j, j ≠ 7 → M' 61 j = M 61 j) ∧ M' 61 7 = 0) ∧ ((b = none ∧ rr = some (.int (-1000000002)) ∧ h = mk (up M' 64 2 (M' 64 2 + 1)) T) ∨ ∃ s, b = some s ∧ rr = some (.int (ansB 1 s)) ∧ h = mk M' T)) := by
  refine R_go 2 (pc' := 2) (L' := [some (.ref 64), some (.int (nI heir)), some (.int (nI v)), some (.int 1), none, none]) (st' := [.int (nI heir), .ref 64]) (h' := mk M T) (fun _ => rfl) ?_
  refine R_call2 (i := .invokevirtual 88) (kd := 0) (y := M_X8_isHeir) (as := [.ref 64, .int (nI heir)]) (r := []) (L0 := [some (.ref 64), some (.int (nI heir))]) (v1 := some (.int 1)) (v2 := some (.int 0)) (h1' := mk M T) (h2' := mk M T) (pc' := 5) (st1 := [.int 1]) (st2 := [.int 0]) rfl rfl rfl rfl rfl rfl (m_isHeir hH h6) (fun x1 => ?_) (fun x1 => ?_)
  · refine R_go 4 (pc' := 12) (L' := [some (.ref 64), some (.int (nI heir)), some (.int (nI v)), some (.int 1), none, none]) (st' := [.int 99999, .int 0, .int (nI v)]) (h' := mk M T) (fun _ => rfl) ?_
    refine R_call2 (i := .invokestatic 53) (kd := 1) (y := M_X8_in) (as := [.int (nI v), .int 0, .int 99999]) (r := []) (L0 := [some (.int (nI v)), some (.int 0), some (.int 99999)]) (v1 := some (.int 1)) (v2 := some (.int 0)) (h1' := mk M T) (h2' := mk M T) (pc' := 15) (st1 := [.int 1]) (st2 := [.int 0]) rfl rfl rfl rfl rfl rfl (m_in) (fun x2 => ?_) (fun x2 => ?_)
    · refine R_go 4 (pc' := 21) (L' := [some (.ref 64), some (.int (nI heir)), some (.int (nI v)), some (.int 1), none, none]) (st' := [.int 1, .int 0, .int 1]) (h' := mk M T) (fun _ => rfl) ?_
      refine R_call2 (i := .invokestatic 53) (kd := 1) (y := M_X8_in) (as := [.int 1, .int 0, .int 1]) (r := []) (L0 := [some (.int 1), some (.int 0), some (.int 1)]) (v1 := some (.int 1)) (v2 := some (.int 0)) (h1' := mk M T) (h2' := mk M T) (pc' := 24) (st1 := [.int 1]) (st2 := [.int 0]) rfl rfl rfl rfl rfl rfl (m_in) (fun x3 => ?_) (fun x3 => ?_)
      · refine R_go 2 (pc' := 35) (L' := [some (.ref 64), some (.int (nI heir)), some (.int (nI v)), some (.int 1), none, none]) (st' := [.ref 64]) (h' := mk M T) (fun _ => rfl) ?_
        refine R_callE (i := .invokevirtual 184) (kd := 0) (y := M_X8_byNumbers) (as := [.ref 64]) (r := []) (L0 := [some (.ref 64), none]) (v := fun M2 => none) (h' := fun M2 => mk M2 T) (pc' := 38) (st' := fun M2 => []) rfl rfl rfl rfl rfl rfl (c_bynN) (fun M2 x4 => ?_)
        have xt := x4
        refine R_go 4 (pc' := 44) (L' := [some (.ref 64), some (.int (nI heir)), some (.int (nI v)), some (.int 1), some (.int (-1)), some (.int 0)]) (st' := []) (h' := mk M2 T) (fun _ => rfl) ?_
        refine lp_bm (u := 1) (Mb := M2) h0 pm h8 (by omega) v9 rfl (fun M' b hx hb => ?_) (2 ^ P) 0 none M2 (Nat.zero_add _) ⟨FM_72 hf xt.1, xt.2, fun _ _ _ _ _ => rfl, fun _ _ => rfl⟩ (fun s hs => absurd hs (Nat.not_lt_zero s))
        have fr : (∀ c, c ≠ 61 → ¬ sIr c → up M' 61 7 0 c = M c) ∧ (∀ j, j ≠ 7 → up M' 61 7 0 61 j = M 61 j) ∧ up M' 61 7 0 61 7 = 0 := ⟨fun c a hc => by unfold sIr at hc; exact (up_ne a).trans ((hx.2.2.1 c a (by omega) (by omega) (by omega)).trans (xt.1 c (by omega))), fun j a => (up_nj a 61).trans ((hx.2.2.2 j a).trans (congrFun (xt.1 61 (by omega)) j)), up_at⟩
        cases b with
        | none => exact bm_e_none h0 pm h8 (by omega) v9 rfl hx ⟨none, up M' 61 7 0, hb, fr, Or.inl ⟨rfl, rfl, rfl⟩⟩
        | some s => exact bm_e_1 h0 pm h8 (by omega) v9 rfl hx hb.1 ⟨some s, up M' 61 7 0, hb, fr, Or.inr ⟨s, rfl, rfl, rfl⟩⟩
      · exact absurd (by decide) x3
    · exact absurd (nI_in2 (a := 0) (b := 99999) (by omega) (by omega) (by omega)) x2
  · exact absurd (⟨nI_pos' (by omega), nI_lt hh (by omega)⟩) x1
set_option maxHeartbeats 4000000 in
theorem op_breath {ro : xRO} {M : xM} {T : Nat} (h : Rel M) {i v w : Int32} : OpOK ro M_X7_breath M_X8_breath [some (.ref 3), some (.int i), some (.int v), some (.int w), none] [some (.ref 64), some (.int i), some (.int v), some (.int w), none, none] M T := by
  obtain ⟨P, H, h8, h6, pm, hm, px, hx, a, b1, b2, b3, b4, c2, c3, c4, c5⟩ := rel_all h
  rcases nI_cases i H (by omega) with ⟨heir, hh, rfl⟩ | hi
  · rcases of_in v (b := 99999) (by omega) with ⟨v, v9, rfl⟩ | hv
    · rcases of_in w (b := 1) (by omega) with ⟨u, hu, rfl⟩ | hv
      · rcases (by omega : u = 0 ∨ u = 1) with rfl | rfl
        · refine OpOK.ofE (A := fun r M1 => ∃ b M', isB (gnS M P heir) v (2 ^ P) b ∧ FS M M' ∧ ((b = none ∧ M1 = up M' 60 2 (M' 60 2 + 1) ∧ r = -1000000002) ∨ ∃ s, b = some s ∧ M1 = M' ∧ r = ansB 0 s)) (x_breath_0 hx h6 hh h pm h8 v9) ?_
          intro r M1 hA
          obtain ⟨b, M', hb, f1, hc⟩ := hA
          have e1 : ∀ c, c ≠ 60 → M1 c = M' c := by
            rcases hc with ⟨-, e, -⟩ | ⟨s, -, e, -⟩
            · intro c q; rw [e, up_ne q]
            · intro c _; rw [e]
          have e62 : M1 62 = M 62 := (e1 62 (by omega)).trans (f1 62 (by unfold sIr; omega))
          have e61 : M1 61 = M 61 := (e1 61 (by omega)).trans (f1 61 (by unfold sIr; omega))
          refine (m_breath_0 (M := M1) (M0 := M) (by rw [e62]; exact hm) h6 hh h (fun j _ _ _ => by rw [e62]) pm h8 v9).imp (fun rr hh2 q => ?_)
          obtain ⟨b', M2, hb', ⟨g1, g2, g3⟩, hc'⟩ := q
          have eb := isB_u hb hb'
          have irr : ∀ {X Y : xM}, Rel X → (∀ c, c ≠ 61 → ¬ sIr c → Y c = X c) → (∀ j, j ≠ 7 → Y 61 j = X 61 j) → Y 61 7 = 0 → Rel Y := fun hX a1 a2 a3 => hX.irr (fun c b1 b2 b3 b4 b5 => a1 c b4 (by unfold sIr; omega)) (a2 2 (by omega)) a3 (a2 22 (by omega))
          have rM' : Rel M' := FS_rel h f1
          rcases hc with ⟨n1, n2, n3⟩ | ⟨s, n1, n2, n3⟩
          · rcases hc' with ⟨k1, k2, k3⟩ | ⟨s, k1, -⟩
            · refine ⟨up M2 64 2 (M2 64 2 + 1), ?_, by rw [k2, n3], k3⟩
              refine irr (rM'.err 2 (by omega)) (fun c a1 a2 => ?_) (fun j a1 => ?_) ?_
              · funext j
                rw [up_rd, up_rd]
                by_cases q : c = 64 ∧ j = 2
                · rw [if_pos q, if_pos q, g1 64 (by omega) (by unfold sIr; omega), n2]
                · rw [if_neg q, if_neg q, g1 c a1 a2, n2]
              · rw [up_ne (by omega), up_ne (by omega), g2 j a1, n2]
              · rw [up_ne (by omega)]; exact g3
            · rw [← eb, n1] at k1; cases k1
          · rcases hc' with ⟨k1, -⟩ | ⟨s', k1, k2, k3⟩
            · rw [← eb, n1] at k1; cases k1
            · rw [← eb, n1] at k1
              cases k1
              exact ⟨M2, irr rM' (fun c a1 a2 => by rw [g1 c a1 a2, n2]) (fun j a1 => by rw [g2 j a1, n2]) g3, by rw [k2, n3], k3⟩
        · refine OpOK.ofE (A := fun r M1 => ∃ b M', isB (gnS M P heir) v (2 ^ P) b ∧ FS M M' ∧ ((b = none ∧ M1 = up M' 60 2 (M' 60 2 + 1) ∧ r = -1000000002) ∨ ∃ s, b = some s ∧ M1 = M' ∧ r = ansB 1 s)) (x_breath_1 hx h6 hh h pm h8 v9) ?_
          intro r M1 hA
          obtain ⟨b, M', hb, f1, hc⟩ := hA
          have e1 : ∀ c, c ≠ 60 → M1 c = M' c := by
            rcases hc with ⟨-, e, -⟩ | ⟨s, -, e, -⟩
            · intro c q; rw [e, up_ne q]
            · intro c _; rw [e]
          have e62 : M1 62 = M 62 := (e1 62 (by omega)).trans (f1 62 (by unfold sIr; omega))
          have e61 : M1 61 = M 61 := (e1 61 (by omega)).trans (f1 61 (by unfold sIr; omega))
          refine (m_breath_1 (M := M1) (M0 := M) (by rw [e62]; exact hm) h6 hh h (fun j _ _ _ => by rw [e62]) pm h8 v9).imp (fun rr hh2 q => ?_)
          obtain ⟨b', M2, hb', ⟨g1, g2, g3⟩, hc'⟩ := q
          have eb := isB_u hb hb'
          have irr : ∀ {X Y : xM}, Rel X → (∀ c, c ≠ 61 → ¬ sIr c → Y c = X c) → (∀ j, j ≠ 7 → Y 61 j = X 61 j) → Y 61 7 = 0 → Rel Y := fun hX a1 a2 a3 => hX.irr (fun c b1 b2 b3 b4 b5 => a1 c b4 (by unfold sIr; omega)) (a2 2 (by omega)) a3 (a2 22 (by omega))
          have rM' : Rel M' := FS_rel h f1
          rcases hc with ⟨n1, n2, n3⟩ | ⟨s, n1, n2, n3⟩
          · rcases hc' with ⟨k1, k2, k3⟩ | ⟨s, k1, -⟩
            · refine ⟨up M2 64 2 (M2 64 2 + 1), ?_, by rw [k2, n3], k3⟩
              refine irr (rM'.err 2 (by omega)) (fun c a1 a2 => ?_) (fun j a1 => ?_) ?_
              · funext j
                rw [up_rd, up_rd]
                by_cases q : c = 64 ∧ j = 2
                · rw [if_pos q, if_pos q, g1 64 (by omega) (by unfold sIr; omega), n2]
                · rw [if_neg q, if_neg q, g1 c a1 a2, n2]
              · rw [up_ne (by omega), up_ne (by omega), g2 j a1, n2]
              · rw [up_ne (by omega)]; exact g3
            · rw [← eb, n1] at k1; cases k1
          · rcases hc' with ⟨k1, -⟩ | ⟨s', k1, k2, k3⟩
            · rw [← eb, n1] at k1; cases k1
            · rw [← eb, n1] at k1
              cases k1
              exact ⟨M2, irr rM' (fun c a1 a2 => by rw [g1 c a1 a2, n2]) (fun j a1 => by rw [g2 j a1, n2]) g3, by rw [k2, n3], k3⟩
      · exact OpOK.of (fun d => x_breath_b2 hx h6 hh v9 hv) (fun d => m_breath_b2 (M := up M 60 1 (M 60 1 + 1)) hm h6 hh v9 hv) rfl (h.err 1 (by omega))
    · exact OpOK.of (fun d => x_breath_b1 hx h6 hh hv) (fun d => m_breath_b1 (M := up M 60 1 (M 60 1 + 1)) hm h6 hh hv) rfl (h.err 1 (by omega))
  · exact OpOK.of (fun d => x_breath_o hx h6 hi) (fun d => m_breath_o (M := up M 60 1 (M 60 1 + 1)) hm h6 hi) rfl (h.err 1 (by omega))
