/-! OPERATION text: both sides -/
def tpZ (f : Nat → Int32) (L u : Nat) : tpT := match tp_lev f L (tp_one f L u 5) 5 (0, 0, fun _ => 0, fun _ => 0) with
  | .inl p => .inl p
  | .inr s => if L ≤ s.1 then .inr s else .inl s.1
theorem tpO_0 {L : Nat} : tpO L 0 (0, 0, fun _ => 0, fun _ => 0) := ⟨Nat.zero_le L, Nat.le_refl 0, rfl, fun i hi => absurd hi (Nat.not_lt_zero i)⟩
theorem tpZ_ok {f : Nat → Int32} {L u : Nat} : tpR L 0 (0, 0, fun _ => 0, fun _ => 0) (tpZ f L u) := by
  have w := tp_lev_ok (f := f) (tp_one_ok (f := f) (L := L) (u := u) 5) 5 _ 0 tpO_0
  unfold tpZ
  split
  · rename_i p e
    rw [e] at w
    exact w
  · rename_i s e
    rw [e] at w
    split
    · exact w
    · exact w.1.1
theorem tpZ_in {f : Nat → Int32} {L u p : Nat} (e : tpZ f L u = .inl p) : tp_lev f L (tp_one f L u 5) 5 (0, 0, fun _ => 0, fun _ => 0) = .inl p ∨ ∃ s, tp_lev f L (tp_one f L u 5) 5 (0, 0, fun _ => 0, fun _ => 0) = .inr s ∧ s.1 < L ∧ s.1 = p := by
  unfold tpZ at e
  split at e
  · rename_i q h
    cases e
    exact Or.inl h
  · rename_i s h
    split at e
    · cases e
    · cases e
      exact Or.inr ⟨s, h, by omega, rfl⟩
theorem tpZ_ir {f : Nat → Int32} {L u : Nat} {s : tpS} (e : tpZ f L u = .inr s) : tp_lev f L (tp_one f L u 5) 5 (0, 0, fun _ => 0, fun _ => 0) = .inr s ∧ L ≤ s.1 := by
  unfold tpZ at e
  split at e
  · cases e
  · rename_i s1 h
    split at e
    · rename_i q
      cases e
      exact ⟨h, q⟩
    · cases e
theorem tp_min {L : Nat} (h : L ≤ 60) : (if (60 : Int32) < nI L then 60 else nI L) = nI L := if_neg (fun q => by
  have := (nI_ltI (a := 60) (b := L) (by omega) (by omega)).mp q
  omega)
def tpA (M : xM) (L u : Nat) : xM := up (up (up (up M 45 2 (nI L)) 45 3 (nI u)) 45 4 0) 46 2 0
theorem tpX_0 {M : xM} {L u : Nat} {f : Nat → Int32} (hf : ∀ i, i < 60 → M 12 i = f i) : tpX f L u M (0, 0, fun _ => 0, fun _ => 0) (tpA M L u) :=
  ⟨rfl, rfl, fun i hi => absurd hi (Nat.not_lt_zero i), ⟨rfl, rfl, hf⟩, fun c a b d => by unfold tpA; rw [up_ne b, up_ne a, up_ne a, up_ne a]⟩
set_option maxRecDepth 100000 in
set_option maxHeartbeats 4000000 in
theorem tx_fo_f {ro : xRO} {d : Nat} {M : xM} {T : Nat} {Q : Option Value → xH → Prop} {f : Nat → Int32} {L u : Nat} (h60 : L ≤ 60) {p : Nat} (hsub : Rn ro (d + 88) M_X2_readLevel 0 [some (.ref 48), some (.int 0), some (.int 0), none, none] [] (mk (up (up (up (up M 45 2 (nI L)) 45 3 (nI u)) 45 4 0) 46 2 0) 15) (fun rr h => ∃ M1, tpF M p M1 ∧ rr = some (.int 0) ∧ h = mk M1 15))  (k1 : ∀ M1, tpF M p M1 → Q (some (.int (nI p))) (mk M1 15)) : Rn ro (d + 89) M_X2_faultOf 0 [some (.ref 48), some (.ref 15), some (.int (nI L)), some (.int (nI u)), none] [] (mk M T) Q := by
  refine R_go 3 (pc' := 5) (L' := [some (.ref 48), some (.ref 15), some (.int (nI L)), some (.int (nI u)), none]) (st' := []) (h' := mk M 15) (fun _ => rfl) ?_
  refine R_go 5 (pc' := 12) (L' := [some (.ref 48), some (.ref 15), some (.int (nI L)), some (.int (nI u)), none]) (st' := [.int (if 60 < (nI L) then 60 else (nI L)), .ref 48]) (h' := mk M 15) (fun _ => rfl) ?_
  refine R_top (tp_min h60) ?_
  refine R_go 14 (pc' := 36) (L' := [some (.ref 48), some (.ref 15), some (.int (nI L)), some (.int (nI u)), none]) (st' := [.int 0, .int 0, .ref 48]) (h' := mk (up (up (up (up M 45 2 (nI L)) 45 3 (nI u)) 45 4 0) 46 2 0) 15) (fun _ => rfl) ?_
  refine R_callE (i := .invokevirtual 44) (kd := 0) (y := M_X2_readLevel) (as := [.ref 48, .int 0, .int 0]) (r := []) (L0 := [some (.ref 48), some (.int 0), some (.int 0), none, none]) (v := fun M1 => some (.int 0)) (h' := fun M1 => mk M1 15) (pc' := 39) (st' := fun M1 => [.int 0]) rfl rfl rfl rfl rfl rfl (hsub) (fun M1 g1 => ?_)
  have hx1 := g1
  refine R_go 7 (pc' := 73) (L' := [some (.ref 48), some (.ref 15), some (.int (nI L)), some (.int (nI u)), some (.int 0)]) (st' := [.int (M1 45 4)]) (h' := mk M1 15) (fun _ => rfl) ?_
  refine R_top (y := nI p) (hx1.1) ?_
  refine R_ret 1 (pcr := 73) (v := some (.int (nI p))) (h' := mk M1 15) (fun _ => rfl) ?_
  exact k1 M1 hx1
set_option maxRecDepth 100000 in
set_option maxHeartbeats 4000000 in
theorem tx_fo_n {ro : xRO} {d : Nat} {M : xM} {T : Nat} {Q : Option Value → xH → Prop} {f : Nat → Int32} {L u : Nat} (h60 : L ≤ 60) {s1 : tpS} (hlt : s1.1 < L) (hsub : Rn ro (d + 88) M_X2_readLevel 0 [some (.ref 48), some (.int 0), some (.int 0), none, none] [] (mk (up (up (up (up M 45 2 (nI L)) 45 3 (nI u)) 45 4 0) 46 2 0) 15) (fun rr h => ∃ M1, tpX f L u M s1 M1 ∧ rr = some (.int 1) ∧ h = mk M1 15))  (k1 : ∀ M1, tpX f L u M s1 M1 → Q (some (.int (nI s1.1))) (mk M1 15)) : Rn ro (d + 89) M_X2_faultOf 0 [some (.ref 48), some (.ref 15), some (.int (nI L)), some (.int (nI u)), none] [] (mk M T) Q := by
  refine R_go 3 (pc' := 5) (L' := [some (.ref 48), some (.ref 15), some (.int (nI L)), some (.int (nI u)), none]) (st' := []) (h' := mk M 15) (fun _ => rfl) ?_
  refine R_go 5 (pc' := 12) (L' := [some (.ref 48), some (.ref 15), some (.int (nI L)), some (.int (nI u)), none]) (st' := [.int (if 60 < (nI L) then 60 else (nI L)), .ref 48]) (h' := mk M 15) (fun _ => rfl) ?_
  refine R_top (tp_min h60) ?_
  refine R_go 14 (pc' := 36) (L' := [some (.ref 48), some (.ref 15), some (.int (nI L)), some (.int (nI u)), none]) (st' := [.int 0, .int 0, .ref 48]) (h' := mk (up (up (up (up M 45 2 (nI L)) 45 3 (nI u)) 45 4 0) 46 2 0) 15) (fun _ => rfl) ?_
  refine R_callE (i := .invokevirtual 44) (kd := 0) (y := M_X2_readLevel) (as := [.ref 48, .int 0, .int 0]) (r := []) (L0 := [some (.ref 48), some (.int 0), some (.int 0), none, none]) (v := fun M1 => some (.int 1)) (h' := fun M1 => mk M1 15) (pc' := 39) (st' := fun M1 => [.int 1]) rfl rfl rfl rfl rfl rfl (hsub) (fun M1 g1 => ?_)
  have hx1 := g1
  refine R_go 3 (pc' := 46) (L' := [some (.ref 48), some (.ref 15), some (.int (nI L)), some (.int (nI u)), none]) (st' := [.int (M1 45 4)]) (h' := mk M1 15) (fun _ => rfl) ?_
  refine R_top (y := nI s1.1) (hx1.1) ?_
  refine R_go 2 (pc' := 50) (L' := [some (.ref 48), some (.ref 15), some (.int (nI L)), some (.int (nI u)), none]) (st' := [.int (M1 45 2), .int (nI s1.1)]) (h' := mk M1 15) (fun _ => rfl) ?_
  refine R_top (y := nI L) (hx1.2.2.2.1.1) ?_
  refine R_if 1 (c := (nI s1.1) < (nI L)) (t := 57) (f := 53) (L' := [some (.ref 48), some (.ref 15), some (.int (nI L)), some (.int (nI u)), none]) (st' := []) (h' := mk M1 15) (fun _ => rfl) (fun g2 => ?_) (fun g2 => ?_)
  · replace g2 : s1.1 < L := (nI_ltI (a := s1.1) (b := L) (by omega) (by omega)).mp g2
    refine R_go 6 (pc' := 73) (L' := [some (.ref 48), some (.ref 15), some (.int (nI L)), some (.int (nI u)), some (.int 0)]) (st' := [.int (M1 45 4)]) (h' := mk M1 15) (fun _ => rfl) ?_
    refine R_top (y := nI s1.1) (hx1.1) ?_
    refine R_ret 1 (pcr := 73) (v := some (.int (nI s1.1))) (h' := mk M1 15) (fun _ => rfl) ?_
    exact k1 M1 hx1
  · replace g2 : ¬ s1.1 < L := fun q => g2 ((nI_ltI (a := s1.1) (b := L) (by omega) (by omega)).mpr q)
    omega
set_option maxRecDepth 100000 in
set_option maxHeartbeats 4000000 in
theorem tx_fo_g {ro : xRO} {d : Nat} {M : xM} {T : Nat} {Q : Option Value → xH → Prop} {f : Nat → Int32} {L u : Nat} (h60 : L ≤ 60) {s1 : tpS} (hle : s1.1 ≤ L) (hge : L ≤ s1.1) (hsub : Rn ro (d + 88) M_X2_readLevel 0 [some (.ref 48), some (.int 0), some (.int 0), none, none] [] (mk (up (up (up (up M 45 2 (nI L)) 45 3 (nI u)) 45 4 0) 46 2 0) 15) (fun rr h => ∃ M1, tpX f L u M s1 M1 ∧ rr = some (.int 1) ∧ h = mk M1 15))  (k1 : ∀ M1, tpX f L u M s1 M1 → Q (some (.int (-1))) (mk M1 15)) : Rn ro (d + 89) M_X2_faultOf 0 [some (.ref 48), some (.ref 15), some (.int (nI L)), some (.int (nI u)), none] [] (mk M T) Q := by
  refine R_go 3 (pc' := 5) (L' := [some (.ref 48), some (.ref 15), some (.int (nI L)), some (.int (nI u)), none]) (st' := []) (h' := mk M 15) (fun _ => rfl) ?_
  refine R_go 5 (pc' := 12) (L' := [some (.ref 48), some (.ref 15), some (.int (nI L)), some (.int (nI u)), none]) (st' := [.int (if 60 < (nI L) then 60 else (nI L)), .ref 48]) (h' := mk M 15) (fun _ => rfl) ?_
  refine R_top (tp_min h60) ?_
  refine R_go 14 (pc' := 36) (L' := [some (.ref 48), some (.ref 15), some (.int (nI L)), some (.int (nI u)), none]) (st' := [.int 0, .int 0, .ref 48]) (h' := mk (up (up (up (up M 45 2 (nI L)) 45 3 (nI u)) 45 4 0) 46 2 0) 15) (fun _ => rfl) ?_
  refine R_callE (i := .invokevirtual 44) (kd := 0) (y := M_X2_readLevel) (as := [.ref 48, .int 0, .int 0]) (r := []) (L0 := [some (.ref 48), some (.int 0), some (.int 0), none, none]) (v := fun M1 => some (.int 1)) (h' := fun M1 => mk M1 15) (pc' := 39) (st' := fun M1 => [.int 1]) rfl rfl rfl rfl rfl rfl (hsub) (fun M1 g1 => ?_)
  have hx1 := g1
  refine R_go 3 (pc' := 46) (L' := [some (.ref 48), some (.ref 15), some (.int (nI L)), some (.int (nI u)), none]) (st' := [.int (M1 45 4)]) (h' := mk M1 15) (fun _ => rfl) ?_
  refine R_top (y := nI s1.1) (hx1.1) ?_
  refine R_go 2 (pc' := 50) (L' := [some (.ref 48), some (.ref 15), some (.int (nI L)), some (.int (nI u)), none]) (st' := [.int (M1 45 2), .int (nI s1.1)]) (h' := mk M1 15) (fun _ => rfl) ?_
  refine R_top (y := nI L) (hx1.2.2.2.1.1) ?_
  refine R_if 1 (c := (nI s1.1) < (nI L)) (t := 57) (f := 53) (L' := [some (.ref 48), some (.ref 15), some (.int (nI L)), some (.int (nI u)), none]) (st' := []) (h' := mk M1 15) (fun _ => rfl) (fun g2 => ?_) (fun g2 => ?_)
  · replace g2 : s1.1 < L := (nI_ltI (a := s1.1) (b := L) (by omega) (by omega)).mp g2
    omega
  · replace g2 : ¬ s1.1 < L := fun q => g2 ((nI_ltI (a := s1.1) (b := L) (by omega) (by omega)).mpr q)
    refine R_ret 8 (pcr := 73) (v := some (.int (-1))) (h' := mk M1 15) (fun _ => rfl) ?_
    exact k1 M1 hx1
theorem tx_lev {ro : xRO} {d : Nat} {M : xM} {L u : Nat} {f : Nat → Int32} (h60 : L ≤ 60) (u1 : u ≤ 1) (hf : ∀ i, i < 60 → M 12 i = f i) : Rn ro (d + 88) M_X2_readLevel 0 [some (.ref 48), some (.int 0), some (.int 0), none, none] [] (mk (tpA M L u) 15) (tpQ f L u M (tp_lev f L (tp_one f L u 5) 5 (0, 0, fun _ => 0, fun _ => 0))) :=
  tc_lev (d := d + 79) (op := 0) h60 (by omega) (tp_one_ok (f := f) (u := u) 5) (fun s dep M hx ho => tc_one h60 u1 5 (d + 38) 0 s dep M (by omega) hx ho) 5 0 _ 0 _ (by omega) (tpX_0 hf) tpO_0
theorem tx_fault_l {ro : xRO} {d T : Nat} {M : xM} {L u p : Nat} {f : Nat → Int32} (h60 : L ≤ 60) (u1 : u ≤ 1) (hf : ∀ i, i < 60 → M 12 i = f i) (e : tpZ f L u = .inl p) : Rn ro (d + 89) M_X2_faultOf 0 [some (.ref 48), some (.ref 15), some (.int (nI L)), some (.int (nI u)), none] [] (mk M T) (fun rr h => ∃ M1, tpF M p M1 ∧ rr = some (.int (nI p)) ∧ h = mk M1 15) := by
  have w := tx_lev (ro := ro) (d := d) (L := L) h60 u1 hf
  have k := tp_lev_ok (f := f) (tp_one_ok (f := f) (L := L) (u := u) 5) 5 _ 0 tpO_0
  rcases tpZ_in e with q | ⟨s, q1, q2, q3⟩
  · exact tx_fo_f (f := f) h60 (tpQ_al q w) (fun M1 h => ⟨M1, h, rfl, rfl⟩)
  · subst q3
    rw [q1] at k
    have k2 := k.1.2.1
    exact tx_fo_n h60 q2 (tpQ_ar q1 w) (fun M1 h => ⟨M1, h.flt (by omega), rfl, rfl⟩)
theorem tx_fault_r {ro : xRO} {d T : Nat} {M : xM} {L u : Nat} {s : tpS} {f : Nat → Int32} (h60 : L ≤ 60) (u1 : u ≤ 1) (hf : ∀ i, i < 60 → M 12 i = f i) (e : tpZ f L u = .inr s) : Rn ro (d + 89) M_X2_faultOf 0 [some (.ref 48), some (.ref 15), some (.int (nI L)), some (.int (nI u)), none] [] (mk M T) (fun rr h => ∃ M1, tpX f L u M s M1 ∧ rr = some (.int (-1)) ∧ h = mk M1 15) := by
  have w := tx_lev (ro := ro) (d := d) (L := L) h60 u1 hf
  have k := tpZ_ok (f := f) (L := L) (u := u)
  rw [e] at k
  have q := tpZ_ir e
  exact tx_fo_g h60 k.1.1 q.2 (tpQ_ar q.1 w) (fun M1 h => ⟨M1, h, rfl, rfl⟩)
set_option maxRecDepth 100000 in
set_option maxHeartbeats 4000000 in
theorem c_tLikeD_0 {ro : xRO} {d : Nat} {M : xM} {T : Nat}  : Rn ro d M_X6_becomeLike 0 [some (.ref 17), some (.ref 49)] [] (mk M T) (fun r h => r = none ∧ h = mk (cpF (cpyA M 47 15 60) 14 46 2) T) := by
  refine R_go 7 (pc' := 12) (L' := [some (.ref 17), some (.ref 49)]) (st' := [.int 60, .int 0, .ref 18, .int 0, .ref 50]) (h' := mk M T) (fun _ => rfl) ?_
  refine R_acpy (a := 47) (b := 15) (n0 := 60) (n1 := 60) (sp := 0) (dp := 0) (n := 60) (idx := 18) rfl rfl rfl rfl rfl (by omega) (by omega) (by decide) (by decide) rfl ?_
  refine R_go 3 (pc' := 20) (L' := [some (.ref 17), some (.ref 49)]) (st' := [.int ((cpyA M 47 15 60) 46 2), .ref 17]) (h' := mk (cpyA M 47 15 60) T) (fun _ => rfl) ?_
  refine R_putI (i := 24) (j := 2) (c := 14) (show shp[14]? = some (.inl (_, _)) from rfl) rfl rfl rfl ?_
  refine R_ret 1 (pcr := 23) (v := none) (h' := mk (cpF (cpyA M 47 15 60) 14 46 2) T) (fun _ => rfl) ?_
  exact ⟨rfl, rfl⟩
set_option maxRecDepth 100000 in
set_option maxHeartbeats 4000000 in
theorem x_text_f_0 {ro : xRO} {d : Nat} {M : xM} {T : Nat} {Q : Option Value → xH → Prop} {L p : Nat} (hL : M 1 8 = nI L) (p60 : p ≤ 60) {A : xM → Prop} (hsub : Rn ro (d + 89) M_X2_faultOf 0 [some (.ref 48), some (.ref 15), some (.int (nI L)), some (.int 0), none] [] (mk M T) (fun rr h => ∃ M1, A M1 ∧ rr = some (.int (nI p)) ∧ h = mk M1 15))  (k1 : ∀ M1, A M1 → Q (some (.int (-10 - nI p))) (mk (up M1 1 8 0) 15)) : Rn ro (d + 90) M_X7_text 0 [some (.ref 3), some (.int 0), none, none] [] (mk M T) Q := by
  refine R_go 3 (pc' := 5) (L' := [some (.ref 3), some (.int 0), none, none]) (st' := [.int 0, .ref 4]) (h' := mk M T) (fun _ => rfl) ?_
  refine R_callD (i := .invokevirtual 149) (kd := 0) (y := M_X0_textOf) (as := [.ref 4, .int 0]) (r := []) (L0 := [some (.ref 4), some (.int 0)]) (v := some (.ref 17)) (h' := mk M T) (pc' := 8) (st' := [.ref 17]) rfl rfl rfl rfl rfl rfl (c_textOf_0) ?_
  refine R_go 11 (pc' := 37) (L' := [some (.ref 3), some (.int 0), some (.ref 17), none]) (st' := [.int (M 1 8), .ref 15, .ref 48]) (h' := mk M T) (fun _ => rfl) ?_
  refine R_top (y := nI L) (hL) ?_
  refine R_go 1 (pc' := 38) (L' := [some (.ref 3), some (.int 0), some (.ref 17), none]) (st' := [.int 0, .int (nI L), .ref 15, .ref 48]) (h' := mk M T) (fun _ => rfl) ?_
  refine R_callE (i := .invokevirtual 156) (kd := 0) (y := M_X2_faultOf) (as := [.ref 48, .ref 15, .int (nI L), .int 0]) (r := []) (L0 := [some (.ref 48), some (.ref 15), some (.int (nI L)), some (.int 0), none]) (v := fun M1 => some (.int (nI p))) (h' := fun M1 => mk M1 15) (pc' := 41) (st' := fun M1 => [.int (nI p)]) rfl rfl rfl rfl rfl rfl (hsub) (fun M1 g1 => ?_)
  have hx1 := g1
  refine R_if 7 (c := (nI p) < 0) (t := 59) (f := 54) (L' := [some (.ref 3), some (.int 0), some (.ref 17), some (.int (nI p))]) (st' := []) (h' := mk (up M1 1 8 0) 15) (fun _ => rfl) (fun g2 => ?_) (fun g2 => ?_)
  · replace g2 : p < 0 := (nI_ltI (a := p) (b := 0) (by omega) (by omega)).mp g2
    omega
  · replace g2 : ¬ p < 0 := fun q => g2 ((nI_ltI (a := p) (b := 0) (by omega) (by omega)).mpr q)
    refine R_ret 4 (pcr := 58) (v := some (.int ((-10) - (nI p)))) (h' := mk (up M1 1 8 0) 15) (fun _ => rfl) ?_
    exact k1 M1 hx1
set_option maxRecDepth 100000 in
set_option maxHeartbeats 4000000 in
theorem x_text_g_0 {ro : xRO} {d : Nat} {M : xM} {T : Nat} {Q : Option Value → xH → Prop} {L : Nat} (hL : M 1 8 = nI L) {A : xM → Prop} (hsub : Rn ro (d + 89) M_X2_faultOf 0 [some (.ref 48), some (.ref 15), some (.int (nI L)), some (.int 0), none] [] (mk M T) (fun rr h => ∃ M1, A M1 ∧ rr = some (.int (-1)) ∧ h = mk M1 15))  (k1 : ∀ M1, A M1 → Q (some (.int 1)) (mk (cpF (cpyA (up M1 1 8 0) 47 15 60) 14 46 2) 15)) : Rn ro (d + 90) M_X7_text 0 [some (.ref 3), some (.int 0), none, none] [] (mk M T) Q := by
  refine R_go 3 (pc' := 5) (L' := [some (.ref 3), some (.int 0), none, none]) (st' := [.int 0, .ref 4]) (h' := mk M T) (fun _ => rfl) ?_
  refine R_callD (i := .invokevirtual 149) (kd := 0) (y := M_X0_textOf) (as := [.ref 4, .int 0]) (r := []) (L0 := [some (.ref 4), some (.int 0)]) (v := some (.ref 17)) (h' := mk M T) (pc' := 8) (st' := [.ref 17]) rfl rfl rfl rfl rfl rfl (c_textOf_0) ?_
  refine R_go 11 (pc' := 37) (L' := [some (.ref 3), some (.int 0), some (.ref 17), none]) (st' := [.int (M 1 8), .ref 15, .ref 48]) (h' := mk M T) (fun _ => rfl) ?_
  refine R_top (y := nI L) (hL) ?_
  refine R_go 1 (pc' := 38) (L' := [some (.ref 3), some (.int 0), some (.ref 17), none]) (st' := [.int 0, .int (nI L), .ref 15, .ref 48]) (h' := mk M T) (fun _ => rfl) ?_
  refine R_callE (i := .invokevirtual 156) (kd := 0) (y := M_X2_faultOf) (as := [.ref 48, .ref 15, .int (nI L), .int 0]) (r := []) (L0 := [some (.ref 48), some (.ref 15), some (.int (nI L)), some (.int 0), none]) (v := fun M1 => some (.int (-1))) (h' := fun M1 => mk M1 15) (pc' := 41) (st' := fun M1 => [.int (-1)]) rfl rfl rfl rfl rfl rfl (hsub) (fun M1 g1 => ?_)
  have hx1 := g1
  refine R_go 11 (pc' := 67) (L' := [some (.ref 3), some (.int 0), some (.ref 17), some (.int (-1))]) (st' := [.ref 49, .ref 17]) (h' := mk (up M1 1 8 0) 15) (fun _ => rfl) ?_
  refine R_callD (i := .invokevirtual 164) (kd := 0) (y := M_X6_becomeLike) (as := [.ref 17, .ref 49]) (r := []) (L0 := [some (.ref 17), some (.ref 49)]) (v := none) (h' := mk (cpF (cpyA (up M1 1 8 0) 47 15 60) 14 46 2) 15) (pc' := 70) (st' := []) rfl rfl rfl rfl rfl rfl (c_tLikeD_0) ?_
  refine R_ret 2 (pcr := 71) (v := some (.int 1)) (h' := mk (cpF (cpyA (up M1 1 8 0) 47 15 60) 14 46 2) 15) (fun _ => rfl) ?_
  exact k1 M1 hx1
set_option maxRecDepth 100000 in
set_option maxHeartbeats 4000000 in
theorem c_tLikeD_1 {ro : xRO} {d : Nat} {M : xM} {T : Nat}  : Rn ro d M_X6_becomeLike 0 [some (.ref 20), some (.ref 49)] [] (mk M T) (fun r h => r = none ∧ h = mk (cpF (cpyA M 47 18 60) 17 46 2) T) := by
  refine R_go 7 (pc' := 12) (L' := [some (.ref 20), some (.ref 49)]) (st' := [.int 60, .int 0, .ref 21, .int 0, .ref 50]) (h' := mk M T) (fun _ => rfl) ?_
  refine R_acpy (a := 47) (b := 18) (n0 := 60) (n1 := 60) (sp := 0) (dp := 0) (n := 60) (idx := 18) rfl rfl rfl rfl rfl (by omega) (by omega) (by decide) (by decide) rfl ?_
  refine R_go 3 (pc' := 20) (L' := [some (.ref 20), some (.ref 49)]) (st' := [.int ((cpyA M 47 18 60) 46 2), .ref 20]) (h' := mk (cpyA M 47 18 60) T) (fun _ => rfl) ?_
  refine R_putI (i := 24) (j := 2) (c := 17) (show shp[17]? = some (.inl (_, _)) from rfl) rfl rfl rfl ?_
  refine R_ret 1 (pcr := 23) (v := none) (h' := mk (cpF (cpyA M 47 18 60) 17 46 2) T) (fun _ => rfl) ?_
  exact ⟨rfl, rfl⟩
set_option maxRecDepth 100000 in
set_option maxHeartbeats 4000000 in
theorem x_text_f_1 {ro : xRO} {d : Nat} {M : xM} {T : Nat} {Q : Option Value → xH → Prop} {L p : Nat} (hL : M 1 8 = nI L) (p60 : p ≤ 60) {A : xM → Prop} (hsub : Rn ro (d + 89) M_X2_faultOf 0 [some (.ref 48), some (.ref 15), some (.int (nI L)), some (.int 1), none] [] (mk M T) (fun rr h => ∃ M1, A M1 ∧ rr = some (.int (nI p)) ∧ h = mk M1 15))  (k1 : ∀ M1, A M1 → Q (some (.int (-10 - nI p))) (mk (up M1 1 8 0) 15)) : Rn ro (d + 90) M_X7_text 0 [some (.ref 3), some (.int 1), none, none] [] (mk M T) Q := by
  refine R_go 3 (pc' := 5) (L' := [some (.ref 3), some (.int 1), none, none]) (st' := [.int 1, .ref 4]) (h' := mk M T) (fun _ => rfl) ?_
  refine R_callD (i := .invokevirtual 149) (kd := 0) (y := M_X0_textOf) (as := [.ref 4, .int 1]) (r := []) (L0 := [some (.ref 4), some (.int 1)]) (v := some (.ref 20)) (h' := mk M T) (pc' := 8) (st' := [.ref 20]) rfl rfl rfl rfl rfl rfl (c_textOf_1) ?_
  refine R_go 11 (pc' := 37) (L' := [some (.ref 3), some (.int 1), some (.ref 20), none]) (st' := [.int (M 1 8), .ref 15, .ref 48]) (h' := mk M T) (fun _ => rfl) ?_
  refine R_top (y := nI L) (hL) ?_
  refine R_go 1 (pc' := 38) (L' := [some (.ref 3), some (.int 1), some (.ref 20), none]) (st' := [.int 1, .int (nI L), .ref 15, .ref 48]) (h' := mk M T) (fun _ => rfl) ?_
  refine R_callE (i := .invokevirtual 156) (kd := 0) (y := M_X2_faultOf) (as := [.ref 48, .ref 15, .int (nI L), .int 1]) (r := []) (L0 := [some (.ref 48), some (.ref 15), some (.int (nI L)), some (.int 1), none]) (v := fun M1 => some (.int (nI p))) (h' := fun M1 => mk M1 15) (pc' := 41) (st' := fun M1 => [.int (nI p)]) rfl rfl rfl rfl rfl rfl (hsub) (fun M1 g1 => ?_)
  have hx1 := g1
  refine R_if 7 (c := (nI p) < 0) (t := 59) (f := 54) (L' := [some (.ref 3), some (.int 1), some (.ref 20), some (.int (nI p))]) (st' := []) (h' := mk (up M1 1 8 0) 15) (fun _ => rfl) (fun g2 => ?_) (fun g2 => ?_)
  · replace g2 : p < 0 := (nI_ltI (a := p) (b := 0) (by omega) (by omega)).mp g2
    omega
  · replace g2 : ¬ p < 0 := fun q => g2 ((nI_ltI (a := p) (b := 0) (by omega) (by omega)).mpr q)
    refine R_ret 4 (pcr := 58) (v := some (.int ((-10) - (nI p)))) (h' := mk (up M1 1 8 0) 15) (fun _ => rfl) ?_
    exact k1 M1 hx1
set_option maxRecDepth 100000 in
set_option maxHeartbeats 4000000 in
theorem x_text_g_1 {ro : xRO} {d : Nat} {M : xM} {T : Nat} {Q : Option Value → xH → Prop} {L : Nat} (hL : M 1 8 = nI L) {A : xM → Prop} (hsub : Rn ro (d + 89) M_X2_faultOf 0 [some (.ref 48), some (.ref 15), some (.int (nI L)), some (.int 1), none] [] (mk M T) (fun rr h => ∃ M1, A M1 ∧ rr = some (.int (-1)) ∧ h = mk M1 15))  (k1 : ∀ M1, A M1 → Q (some (.int 1)) (mk (cpF (cpyA (up M1 1 8 0) 47 18 60) 17 46 2) 15)) : Rn ro (d + 90) M_X7_text 0 [some (.ref 3), some (.int 1), none, none] [] (mk M T) Q := by
  refine R_go 3 (pc' := 5) (L' := [some (.ref 3), some (.int 1), none, none]) (st' := [.int 1, .ref 4]) (h' := mk M T) (fun _ => rfl) ?_
  refine R_callD (i := .invokevirtual 149) (kd := 0) (y := M_X0_textOf) (as := [.ref 4, .int 1]) (r := []) (L0 := [some (.ref 4), some (.int 1)]) (v := some (.ref 20)) (h' := mk M T) (pc' := 8) (st' := [.ref 20]) rfl rfl rfl rfl rfl rfl (c_textOf_1) ?_
  refine R_go 11 (pc' := 37) (L' := [some (.ref 3), some (.int 1), some (.ref 20), none]) (st' := [.int (M 1 8), .ref 15, .ref 48]) (h' := mk M T) (fun _ => rfl) ?_
  refine R_top (y := nI L) (hL) ?_
  refine R_go 1 (pc' := 38) (L' := [some (.ref 3), some (.int 1), some (.ref 20), none]) (st' := [.int 1, .int (nI L), .ref 15, .ref 48]) (h' := mk M T) (fun _ => rfl) ?_
  refine R_callE (i := .invokevirtual 156) (kd := 0) (y := M_X2_faultOf) (as := [.ref 48, .ref 15, .int (nI L), .int 1]) (r := []) (L0 := [some (.ref 48), some (.ref 15), some (.int (nI L)), some (.int 1), none]) (v := fun M1 => some (.int (-1))) (h' := fun M1 => mk M1 15) (pc' := 41) (st' := fun M1 => [.int (-1)]) rfl rfl rfl rfl rfl rfl (hsub) (fun M1 g1 => ?_)
  have hx1 := g1
  refine R_go 11 (pc' := 67) (L' := [some (.ref 3), some (.int 1), some (.ref 20), some (.int (-1))]) (st' := [.ref 49, .ref 20]) (h' := mk (up M1 1 8 0) 15) (fun _ => rfl) ?_
  refine R_callD (i := .invokevirtual 164) (kd := 0) (y := M_X6_becomeLike) (as := [.ref 20, .ref 49]) (r := []) (L0 := [some (.ref 20), some (.ref 49)]) (v := none) (h' := mk (cpF (cpyA (up M1 1 8 0) 47 18 60) 17 46 2) 15) (pc' := 70) (st' := []) rfl rfl rfl rfl rfl rfl (c_tLikeD_1) ?_
  refine R_ret 2 (pcr := 71) (v := some (.int 1)) (h' := mk (cpF (cpyA (up M1 1 8 0) 47 18 60) 17 46 2) 15) (fun _ => rfl) ?_
  exact k1 M1 hx1
set_option maxRecDepth 100000 in
set_option maxHeartbeats 4000000 in
theorem x_text_n {ro : xRO} {d : Nat} {M : xM} {T : Nat} {i : Int32} (u0 : ¬ i = 0) (u1 : ¬ i = 1) : Rn ro (d + 90) M_X7_text 0 [some (.ref 3), some (.int i), none, none] [] (mk M T) (fun r h => r = some (.int (-1000000001)) ∧ h = mk (up M 60 1 (M 60 1 + 1)) T) := by
  refine R_go 3 (pc' := 5) (L' := [some (.ref 3), some (.int i), none, none]) (st' := [.int i, .ref 4]) (h' := mk M T) (fun _ => rfl) ?_
  refine R_callD (i := .invokevirtual 149) (kd := 0) (y := M_X0_textOf) (as := [.ref 4, .int i]) (r := []) (L0 := [some (.ref 4), some (.int i)]) (v := some (.null)) (h' := mk M T) (pc' := 8) (st' := [.null]) rfl rfl rfl rfl rfl rfl (c_textOf_n u0 u1) ?_
  refine R_go 5 (pc' := 15) (L' := [some (.ref 3), some (.int i), some (.null), none]) (st' := [.int 1, .ref 3]) (h' := mk M T) (fun _ => rfl) ?_
  refine R_callD (i := .invokevirtual 75) (kd := 0) (y := M_X7_error) (as := [.ref 3, .int 1]) (r := []) (L0 := [some (.ref 3), some (.int 1)]) (v := some (.int (-1000000001))) (h' := mk (up M 60 1 (M 60 1 + 1)) T) (pc' := 18) (st' := [.int (-1000000001)]) rfl rfl rfl rfl rfl rfl (c_error_1) ?_
  refine R_ret 1 (pcr := 18) (v := some (.int (-1000000001))) (h' := mk (up M 60 1 (M 60 1 + 1)) T) (fun _ => rfl) ?_
  exact ⟨rfl, rfl⟩
