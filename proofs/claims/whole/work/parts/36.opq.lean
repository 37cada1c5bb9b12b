/-! SHEETS: judge, fits -/
theorem and_low8 {m : Int32} : (m &&& 255).toInt8 = m.toInt8 := by
  rw [Int32.toInt8_and, show (255 : Int32).toInt8 = -1 from rfl, Int8.and_neg_one]
theorem and_low16 {m : Int32} : (m &&& 65535).toInt16 = m.toInt16 := by
  rw [Int32.toInt16_and, show (65535 : Int32).toInt16 = -1 from rfl, Int16.and_neg_one]
theorem numR_v {b v : Nat} {c m : Int32} (h : numR (nI b) c m) (hb : b = 8 ∨ b = 16 ∨ b = 32) (hv : v < 100) : c = nI v ↔ m = nI v := by
  have h8 := (by decide : ∀ v : Fin 100, nI v.val &&& 255 = nI v.val ∧ (nI v.val).toInt8.toInt32 = nI v.val) ⟨v, hv⟩
  have h16 := (by decide : ∀ v : Fin 100, nI v.val &&& 65535 = nI v.val ∧ (nI v.val).toInt16.toInt32 = nI v.val) ⟨v, hv⟩
  rcases hb with rfl | rfl | rfl
  · obtain ⟨h1, h2⟩ := h.1 rfl
    constructor
    · intro q
      rw [h2, ← and_low8, ← h1, q]
      exact h8.2
    · intro q
      rw [h1, q]
      exact h8.1
  · obtain ⟨h1, h2⟩ := h.2.1 rfl
    constructor
    · intro q
      rw [h2, ← and_low16, ← h1, q]
      exact h16.2
    · intro q
      rw [h1, q]
      exact h16.1
  · rw [h.2.2.1 rfl]
theorem rel_sh {M : xM} (h : Rel M) {e : Nat} (he : e < 4) : ∃ b z : Nat, M (52 + 2 * e) 1 = nI b ∧ M 65 e = nI b ∧ (b = 0 ∨ b = 8 ∨ b = 16 ∨ b = 32) ∧ M (52 + 2 * e) 2 = nI z ∧ M 66 e = nI z ∧ z ≤ 24 ∧ (b = 0 → z = 0) ∧ ∀ i, i < 24 → numR (nI b) (M (53 + 2 * e) i) (M 67 (24 * e + i)) := by
  obtain ⟨h1, h2, h3, ⟨z, z1, z2⟩, h4, h5⟩ := h.2.2.1 e he
  have key : ∃ b : Nat, (b = 0 ∨ b = 8 ∨ b = 16 ∨ b = 32) ∧ M 65 e = nI b := by
    rcases h3 with q | q | q | q
    · exact ⟨0, Or.inl rfl, q⟩
    · exact ⟨8, Or.inr (Or.inl rfl), q⟩
    · exact ⟨16, Or.inr (Or.inr (Or.inl rfl)), q⟩
    · exact ⟨32, Or.inr (Or.inr (Or.inr rfl)), q⟩
  obtain ⟨b, b1, b2⟩ := key
  refine ⟨b, z, h1.trans b2, b2, b1, h2.trans z2, z2, z1, fun q => ?_, fun i hi => by rw [← b2]; exact h5 i hi⟩
  subst q
  have w := h4 b2
  rw [z2] at w
  exact nI_inj (by omega) (by omega) w
def kdN (M : xM) (p : Nat) : Nat := (M 62 (10 + 7 * p + 0)).toNatClampNeg
def mqN (M : xM) (p : Nat) : Nat := (M 62 (10 + 7 * p + 1)).toNatClampNeg
def fcN (M : xM) (p : Nat) : Nat := (M 62 (10 + 7 * p + 2)).toNatClampNeg
def clN (M : xM) (p : Nat) : Nat := (M 62 (10 + 7 * p + 3)).toNatClampNeg
theorem iN_c {x : Int32} {b : Nat} (h : iN x b) (hb : b < 2 ^ 30) : x = nI x.toNatClampNeg ∧ x.toNatClampNeg ≤ b := by
  obtain ⟨n, n1, n2⟩ := h
  subst n2
  rw [nI_clamp (by omega)]
  exact ⟨rfl, n1⟩
theorem rel_pn {M : xM} (h : Rel M) : (∀ i, i < 8 → paneF M (3 + i) (kdN M i) (mqN M i) (fcN M i) (clN M i)) ∧ ∀ i, i < 8 → rpF M i (kdN M i) (mqN M i) (fcN M i) (clN M i) := by
  obtain ⟨P, H, h8, h6, pm, hm, px, hx, a, b1, b2, b3, b4, c2, c3, c4, c5⟩ := rel_all h
  have key : ∀ i, i < 8 → rpF M i (kdN M i) (mqN M i) (fcN M i) (clN M i) := by
    intro i hi
    obtain ⟨d0, d1, d2, d3, -⟩ := c3 i hi
    have e0 := iN_c d0 (by omega)
    have e1 := iN_c d1 (by omega)
    have e2 := iN_c d2 (by omega)
    have e3 := iN_c d3 (by omega)
    exact ⟨e0.1, e1.1, e2.1, e3.1, Nat.lt_succ_of_le e0.2, Nat.lt_succ_of_le e1.2, Nat.lt_succ_of_le e2.2, Nat.lt_succ_of_le e3.2⟩
  refine ⟨fun i hi => ?_, key⟩
  obtain ⟨d0, d1, d2, d3, d4⟩ := key i hi
  exact ⟨(b1 i 0 hi (by omega)).trans d0, (b1 i 1 hi (by omega)).trans d1, (b1 i 2 hi (by omega)).trans d2, (b1 i 3 hi (by omega)).trans d3, d4⟩
theorem sh_out {i : Int32} (hi : ¬ (0 ≤ i ∧ i < 4)) : ¬ (0 ≤ i ∧ i ≤ 3) := fun q => hi ⟨q.1, by grind⟩
set_option maxRecDepth 100000 in
set_option maxHeartbeats 4000000 in
theorem m_isSheet {ro : xRO} {d : Nat} {M : xM} {T : Nat} {i : Int32} : Rn ro (d + 1) M_X8_isSheet 0 [some (.int i)] [] (mk M T) (fun r h => ((0 ≤ i ∧ i ≤ 3) ∧ r = some (.int 1) ∧ h = mk M T) ∨ (¬ (0 ≤ i ∧ i ≤ 3) ∧ r = some (.int 0) ∧ h = mk M T)) := by
  refine R_go 3 (pc' := 3) (L' := [some (.int i)]) (st' := [.int 3, .int 0, .int i]) (h' := mk M T) (fun _ => rfl) ?_
  refine R_call2 (i := .invokestatic 53) (kd := 1) (y := M_X8_in) (as := [.int i, .int 0, .int 3]) (r := []) (L0 := [some (.int i), some (.int 0), some (.int 3)]) (v1 := some (.int 1)) (v2 := some (.int 0)) (h1' := mk M T) (h2' := mk M T) (pc' := 6) (st1 := [.int 1]) (st2 := [.int 0]) rfl rfl rfl rfl rfl rfl (m_in) (fun h1 => ?_) (fun h1 => ?_)
  · refine R_ret 1 (pcr := 6) (v := some (.int 1)) (h' := mk M T) (fun _ => rfl) ?_
    exact Or.inl ⟨h1, rfl, rfl⟩
  · refine R_ret 1 (pcr := 6) (v := some (.int 0)) (h' := mk M T) (fun _ => rfl) ?_
    exact Or.inr ⟨h1, rfl, rfl⟩
set_option maxRecDepth 100000 in
set_option maxHeartbeats 4000000 in
theorem m_notThere_o {ro : xRO} {d : Nat} {M : xM} {T : Nat} {i : Int32} (hi : ¬ (0 ≤ i ∧ i < 4)) : Rn ro (d + 2) M_X8_notThere 0 [some (.ref 64), some (.int i)] [] (mk M T) (fun r h => r = some (.int (-1000000001)) ∧ h = mk M T) := by
  refine R_go 1 (pc' := 1) (L' := [some (.ref 64), some (.int i)]) (st' := [.int i]) (h' := mk M T) (fun _ => rfl) ?_
  refine R_call2 (i := .invokestatic 168) (kd := 1) (y := M_X8_isSheet) (as := [.int i]) (r := []) (L0 := [some (.int i)]) (v1 := some (.int 1)) (v2 := some (.int 0)) (h1' := mk M T) (h2' := mk M T) (pc' := 4) (st1 := [.int 1]) (st2 := [.int 0]) rfl rfl rfl rfl rfl rfl (m_isSheet) (fun h1 => ?_) (fun h1 => ?_)
  · exact absurd h1 (sh_out hi)
  · refine R_ret 4 (pcr := 27) (v := some (.int (-1000000001))) (h' := mk M T) (fun _ => rfl) ?_
    exact ⟨rfl, rfl⟩
set_option maxRecDepth 100000 in
set_option maxHeartbeats 4000000 in
theorem m_notThere_0 {ro : xRO} {d : Nat} {M : xM} {T : Nat} {e : Nat} (he : e < 4) (hb : M 65 e = nI 0) : Rn ro (d + 2) M_X8_notThere 0 [some (.ref 64), some (.int (nI e))] [] (mk M T) (fun r h => r = some (.int (-1000000002)) ∧ h = mk M T) := by
  refine R_go 1 (pc' := 1) (L' := [some (.ref 64), some (.int (nI e))]) (st' := [.int (nI e)]) (h' := mk M T) (fun _ => rfl) ?_
  refine R_call2 (i := .invokestatic 168) (kd := 1) (y := M_X8_isSheet) (as := [.int (nI e)]) (r := []) (L0 := [some (.int (nI e))]) (v1 := some (.int 1)) (v2 := some (.int 0)) (h1' := mk M T) (h2' := mk M T) (pc' := 4) (st1 := [.int 1]) (st2 := [.int 0]) rfl rfl rfl rfl rfl rfl (m_isSheet) (fun h1 => ?_) (fun h1 => ?_)
  · refine R_go 4 (pc' := 17) (L' := [some (.ref 64), some (.int (nI e))]) (st' := [.int (nI e), .ref 68]) (h' := mk M T) (fun _ => rfl) ?_
    refine R_iald (c := 65) (n := 4) (j := e) rfl rfl (by omega) (by decide) ?_
    refine R_top (y := 0) (hb) ?_
    refine R_ret 4 (pcr := 27) (v := some (.int (-1000000002))) (h' := mk M T) (fun _ => rfl) ?_
    exact ⟨rfl, rfl⟩
  · exact absurd (nI_in2 (a := 0) (b := 3) (by omega) (by omega) (by omega)) h1
set_option maxRecDepth 100000 in
set_option maxHeartbeats 4000000 in
theorem m_notThere_i {ro : xRO} {d : Nat} {M : xM} {T : Nat} {e : Nat} (he : e < 4) {b : Nat} (hb : M 65 e = nI b) (b32 : b ≤ 32) (b0 : ¬ b = 0) : Rn ro (d + 2) M_X8_notThere 0 [some (.ref 64), some (.int (nI e))] [] (mk M T) (fun r h => r = some (.int 0) ∧ h = mk M T) := by
  refine R_go 1 (pc' := 1) (L' := [some (.ref 64), some (.int (nI e))]) (st' := [.int (nI e)]) (h' := mk M T) (fun _ => rfl) ?_
  refine R_call2 (i := .invokestatic 168) (kd := 1) (y := M_X8_isSheet) (as := [.int (nI e)]) (r := []) (L0 := [some (.int (nI e))]) (v1 := some (.int 1)) (v2 := some (.int 0)) (h1' := mk M T) (h2' := mk M T) (pc' := 4) (st1 := [.int 1]) (st2 := [.int 0]) rfl rfl rfl rfl rfl rfl (m_isSheet) (fun h1 => ?_) (fun h1 => ?_)
  · refine R_go 4 (pc' := 17) (L' := [some (.ref 64), some (.int (nI e))]) (st' := [.int (nI e), .ref 68]) (h' := mk M T) (fun _ => rfl) ?_
    refine R_iald (c := 65) (n := 4) (j := e) rfl rfl (by omega) (by decide) ?_
    refine R_top (y := nI b) (hb) ?_
    refine R_ifn 1 (c := (nI b) = 0) (t := 26) (f := 21) (L' := [some (.ref 64), some (.int (nI e))]) (st' := []) (h' := mk M T) (fun _ => rfl) (fun h2 => ?_) (fun h2 => ?_)
    · replace h2 : ¬ b = 0 := fun q => h2 ((nI_eq (a := b) (b := 0) (by omega) (by omega)).mpr q)
      refine R_ret 2 (pcr := 27) (v := some (.int 0)) (h' := mk M T) (fun _ => rfl) ?_
      exact ⟨rfl, rfl⟩
    · replace h2 : b = 0 := (nI_eq (a := b) (b := 0) (by omega) (by omega)).mp h2
      omega
  · exact absurd (nI_in2 (a := 0) (b := 3) (by omega) (by omega) (by omega)) h1
set_option maxRecDepth 100000 in
set_option maxHeartbeats 4000000 in
theorem x_judge_o {ro : xRO} {d : Nat} {M : xM} {T : Nat} {i : Int32} (hi : ¬ (0 ≤ i ∧ i < 4))  : Rn ro (d + 90) M_X7_judge 0 [some (.ref 3), some (.int i), none] [] (mk M T) (fun r h => r = some (.int (-1000000001)) ∧ h = mk (up M 60 1 (M 60 1 + 1)) T) := by
  refine R_go 2 (pc' := 2) (L' := [some (.ref 3), some (.int i), none]) (st' := [.int i, .ref 3]) (h' := mk M T) (fun _ => rfl) ?_
  refine R_callD (i := .invokevirtual 180) (kd := 0) (y := M_X7_sheetAt) (as := [.ref 3, .int i]) (r := []) (L0 := [some (.ref 3), some (.int i)]) (v := some (.null)) (h' := mk M T) (pc' := 5) (st' := [.null]) rfl rfl rfl rfl rfl rfl (c_sheetAt_out hi) ?_
  refine R_go 5 (pc' := 12) (L' := [some (.ref 3), some (.int i), some (.null)]) (st' := [.int 1, .ref 3]) (h' := mk M T) (fun _ => rfl) ?_
  refine R_callD (i := .invokevirtual 75) (kd := 0) (y := M_X7_error) (as := [.ref 3, .int 1]) (r := []) (L0 := [some (.ref 3), some (.int 1)]) (v := some (.int (-1000000001))) (h' := mk (up M 60 1 (M 60 1 + 1)) T) (pc' := 15) (st' := [.int (-1000000001)]) rfl rfl rfl rfl rfl rfl (c_error_1) ?_
  refine R_ret 1 (pcr := 15) (v := some (.int (-1000000001))) (h' := mk (up M 60 1 (M 60 1 + 1)) T) (fun _ => rfl) ?_
  exact ⟨rfl, rfl⟩
set_option maxRecDepth 100000 in
set_option maxHeartbeats 4000000 in
theorem m_judge_o {ro : xRO} {d : Nat} {M : xM} {T : Nat} {i : Int32} (hi : ¬ (0 ≤ i ∧ i < 4))  : Rn ro (d + 90) M_X8_judge 0 [some (.ref 64), some (.int i), none] [] (mk M T) (fun r h => r = some (.int (-1000000001)) ∧ h = mk (up M 64 1 (M 64 1 + 1)) T) := by
  refine R_go 2 (pc' := 2) (L' := [some (.ref 64), some (.int i), none]) (st' := [.int i, .ref 64]) (h' := mk M T) (fun _ => rfl) ?_
  refine R_callD (i := .invokevirtual 249) (kd := 0) (y := M_X8_notThere) (as := [.ref 64, .int i]) (r := []) (L0 := [some (.ref 64), some (.int i)]) (v := some (.int (-1000000001))) (h' := mk M T) (pc' := 5) (st' := [.int (-1000000001)]) rfl rfl rfl rfl rfl rfl (m_notThere_o hi) ?_
  refine R_go 5 (pc' := 12) (L' := [some (.ref 64), some (.int i), some (.int (-1000000001))]) (st' := [.int (-1000000001), .ref 64]) (h' := mk M T) (fun _ => rfl) ?_
  refine R_callD (i := .invokevirtual 81) (kd := 0) (y := M_X8_error) (as := [.ref 64, .int (-1000000001)]) (r := []) (L0 := [some (.ref 64), some (.int (-1000000001))]) (v := some (.int (-1000000001))) (h' := mk (up M 64 1 (M 64 1 + 1)) T) (pc' := 15) (st' := [.int (-1000000001)]) rfl rfl rfl rfl rfl rfl (m_error_1) ?_
  refine R_ret 2 (pcr := 29) (v := some (.int (-1000000001))) (h' := mk (up M 64 1 (M 64 1 + 1)) T) (fun _ => rfl) ?_
  exact ⟨rfl, rfl⟩
set_option maxRecDepth 100000 in
set_option maxHeartbeats 4000000 in
theorem x_judge_0 {ro : xRO} {d : Nat} {M : xM} {T : Nat} {e : Nat} (he : e < 4) (hb : M (52 + 2 * e) 1 = nI 0)  : Rn ro (d + 90) M_X7_judge 0 [some (.ref 3), some (.int (nI e)), none] [] (mk M T) (fun r h => r = some (.int (-1000000002)) ∧ h = mk (up M 60 2 (M 60 2 + 1)) T) := by
  refine R_go 2 (pc' := 2) (L' := [some (.ref 3), some (.int (nI e)), none]) (st' := [.int (nI e), .ref 3]) (h' := mk M T) (fun _ => rfl) ?_
  refine R_callD (i := .invokevirtual 180) (kd := 0) (y := M_X7_sheetAt) (as := [.ref 3, .int (nI e)]) (r := []) (L0 := [some (.ref 3), some (.int (nI e))]) (v := some (.ref (52 + 2 * e + 3))) (h' := mk M T) (pc' := 5) (st' := [.ref (52 + 2 * e + 3)]) rfl rfl rfl rfl rfl rfl (c_sheetAt_in (n := e) (by omega)) ?_
  refine R_go 4 (pc' := 17) (L' := [some (.ref 3), some (.int (nI e)), some (.ref (52 + 2 * e + 3))]) (st' := [.ref (52 + 2 * e + 3)]) (h' := mk M T) (fun _ => rfl) ?_
  refine R_getI (i := 237) (j := 1) (c := 52 + 2 * e) (sh_sheet (by omega)) rfl rfl rfl ?_
  refine R_top (y := 0) (hb) ?_
  refine R_go 3 (pc' := 25) (L' := [some (.ref 3), some (.int (nI e)), some (.ref (52 + 2 * e + 3))]) (st' := [.int 2, .ref 3]) (h' := mk M T) (fun _ => rfl) ?_
  refine R_callD (i := .invokevirtual 75) (kd := 0) (y := M_X7_error) (as := [.ref 3, .int 2]) (r := []) (L0 := [some (.ref 3), some (.int 2)]) (v := some (.int (-1000000002))) (h' := mk (up M 60 2 (M 60 2 + 1)) T) (pc' := 28) (st' := [.int (-1000000002)]) rfl rfl rfl rfl rfl rfl (c_error_2) ?_
  refine R_ret 1 (pcr := 28) (v := some (.int (-1000000002))) (h' := mk (up M 60 2 (M 60 2 + 1)) T) (fun _ => rfl) ?_
  exact ⟨rfl, rfl⟩
set_option maxRecDepth 100000 in
set_option maxHeartbeats 4000000 in
theorem m_judge_0 {ro : xRO} {d : Nat} {M : xM} {T : Nat} {e : Nat} (he : e < 4) (hb : M 65 e = nI 0)  : Rn ro (d + 90) M_X8_judge 0 [some (.ref 64), some (.int (nI e)), none] [] (mk M T) (fun r h => r = some (.int (-1000000002)) ∧ h = mk (up M 64 2 (M 64 2 + 1)) T) := by
  refine R_go 2 (pc' := 2) (L' := [some (.ref 64), some (.int (nI e)), none]) (st' := [.int (nI e), .ref 64]) (h' := mk M T) (fun _ => rfl) ?_
  refine R_callD (i := .invokevirtual 249) (kd := 0) (y := M_X8_notThere) (as := [.ref 64, .int (nI e)]) (r := []) (L0 := [some (.ref 64), some (.int (nI e))]) (v := some (.int (-1000000002))) (h' := mk M T) (pc' := 5) (st' := [.int (-1000000002)]) rfl rfl rfl rfl rfl rfl (m_notThere_0 he hb) ?_
  refine R_go 5 (pc' := 12) (L' := [some (.ref 64), some (.int (nI e)), some (.int (-1000000002))]) (st' := [.int (-1000000002), .ref 64]) (h' := mk M T) (fun _ => rfl) ?_
  refine R_callD (i := .invokevirtual 81) (kd := 0) (y := M_X8_error) (as := [.ref 64, .int (-1000000002)]) (r := []) (L0 := [some (.ref 64), some (.int (-1000000002))]) (v := some (.int (-1000000002))) (h' := mk (up M 64 2 (M 64 2 + 1)) T) (pc' := 15) (st' := [.int (-1000000002)]) rfl rfl rfl rfl rfl rfl (m_error_2) ?_
  refine R_ret 2 (pcr := 29) (v := some (.int (-1000000002))) (h' := mk (up M 64 2 (M 64 2 + 1)) T) (fun _ => rfl) ?_
  exact ⟨rfl, rfl⟩
set_option maxRecDepth 100000 in
set_option maxHeartbeats 4000000 in
theorem x_judge_i {ro : xRO} {d : Nat} {M : xM} {T : Nat} {e : Nat} (he : e < 4) {z : Nat} (hz : M (52 + 2 * e) 2 = nI z) (z24 : z ≤ 24) {b : Nat} (hb : M (52 + 2 * e) 1 = nI b) (b32 : b ≤ 32) (b0 : ¬ b = 0) {P : Nat} (hP : M 1 6 = nI P) (h8 : P ≤ 8) {lamp : Nat} (hl : M 1 13 = nI lamp) (l1 : lamp ≤ 1) {kd md fc cl : Nat → Nat} {cs : Nat → Int32} (hpn : ∀ i, i < 8 → paneF M (3 + i) (kd i) (md i) (fc i) (cl i)) (hq : ∀ i v, i < 24 → v < 100 → (M (53 + 2 * e) i = nI v ↔ cs i = nI v)) {t : Nat} (ht0 : M 1 12 = nI t) (ht : t < 1000) {cold : Nat} (hc : M 1 11 = nI cold) (c40 : cold ≤ 40) : Rn ro (d + 90) M_X7_judge 0 [some (.ref 3), some (.int (nI e)), none] [] (mk M T) (fun r h => r = some (.int (nI (lst (rgF kd md fc cl cs P t cold lamp) 0 z))) ∧ h = mk M T) := by
  refine R_go 2 (pc' := 2) (L' := [some (.ref 3), some (.int (nI e)), none]) (st' := [.int (nI e), .ref 3]) (h' := mk M T) (fun _ => rfl) ?_
  refine R_callD (i := .invokevirtual 180) (kd := 0) (y := M_X7_sheetAt) (as := [.ref 3, .int (nI e)]) (r := []) (L0 := [some (.ref 3), some (.int (nI e))]) (v := some (.ref (52 + 2 * e + 3))) (h' := mk M T) (pc' := 5) (st' := [.ref (52 + 2 * e + 3)]) rfl rfl rfl rfl rfl rfl (c_sheetAt_in (n := e) (by omega)) ?_
  refine R_go 4 (pc' := 17) (L' := [some (.ref 3), some (.int (nI e)), some (.ref (52 + 2 * e + 3))]) (st' := [.ref (52 + 2 * e + 3)]) (h' := mk M T) (fun _ => rfl) ?_
  refine R_getI (i := 237) (j := 1) (c := 52 + 2 * e) (sh_sheet (by omega)) rfl rfl rfl ?_
  refine R_top (y := nI b) (hb) ?_
  refine R_ifn 1 (c := (nI b) = 0) (t := 29) (f := 23) (L' := [some (.ref 3), some (.int (nI e)), some (.ref (52 + 2 * e + 3))]) (st' := []) (h' := mk M T) (fun _ => rfl) (fun g1 => ?_) (fun g1 => ?_)
  · replace g1 : ¬ b = 0 := fun q => g1 ((nI_eq (a := b) (b := 0) (by omega) (by omega)).mpr q)
    refine R_go 6 (pc' := 41) (L' := [some (.ref 3), some (.int (nI e)), some (.ref (52 + 2 * e + 3))]) (st' := [.int (M 1 12), .ref (52 + 2 * e + 3), .ref 4]) (h' := mk M T) (fun _ => rfl) ?_
    refine R_top (y := nI t) (ht0) ?_
    refine R_go 3 (pc' := 48) (L' := [some (.ref 3), some (.int (nI e)), some (.ref (52 + 2 * e + 3))]) (st' := [.int (M 1 11), .int (nI t), .ref (52 + 2 * e + 3), .ref 4]) (h' := mk M T) (fun _ => rfl) ?_
    refine R_top (y := nI cold) (hc) ?_
    refine R_callD (i := .invokevirtual 240) (kd := 0) (y := M_X0_rightOnes) (as := [.ref 4, .ref (52 + 2 * e + 3), .int (nI t), .int (nI cold)]) (r := []) (L0 := [some (.ref 4), some (.ref (52 + 2 * e + 3)), some (.int (nI t)), some (.int (nI cold)), none, none]) (v := some (.int (nI (lst (rgF kd md fc cl cs P t cold lamp) 0 z)))) (h' := mk M T) (pc' := 51) (st' := [.int (nI (lst (rgF kd md fc cl cs P t cold lamp) 0 z))]) rfl rfl rfl rfl rfl rfl (c_rightOnes he hz z24 hP h8 hl l1 hpn hq ht c40) ?_
    refine R_ret 1 (pcr := 51) (v := some (.int (nI (lst (rgF kd md fc cl cs P t cold lamp) 0 z)))) (h' := mk M T) (fun _ => rfl) ?_
    exact ⟨rfl, rfl⟩
  · replace g1 : b = 0 := (nI_eq (a := b) (b := 0) (by omega) (by omega)).mp g1
    omega
set_option maxRecDepth 100000 in
set_option maxHeartbeats 4000000 in
theorem m_judge_i {ro : xRO} {d : Nat} {M : xM} {T : Nat} {e : Nat} (he : e < 4) {z : Nat} (hz : M 66 e = nI z) (z24 : z ≤ 24) {b : Nat} (hb : M 65 e = nI b) (b32 : b ≤ 32) (b0 : ¬ b = 0) {P : Nat} (hP : M 62 6 = nI P) (h8 : P ≤ 8) {kd md fc cl : Nat → Nat} {cs : Nat → Int32} (hpn : ∀ i, i < 8 → rpF M i (kd i) (md i) (fc i) (cl i)) (hq : ∀ i, i < 24 → M 67 (24 * e + i) = cs i) {cold lamp : Nat} (hc : M 62 0 = nI cold) (hl : M 62 2 = nI lamp) (c40 : cold ≤ 40) (l1 : lamp ≤ 1) (h0 : M 61 7 = 0) {t : Nat} (ht0 : M 62 1 = nI t) (ht : t < 1000) : Rn ro (d + 90) M_X8_judge 0 [some (.ref 64), some (.int (nI e)), none] [] (mk M T) (fun r h => r = some (.int (nI (lst (rgF kd md fc cl cs P t cold lamp) 0 z))) ∧ h = mk M T) := by
  refine R_go 2 (pc' := 2) (L' := [some (.ref 64), some (.int (nI e)), none]) (st' := [.int (nI e), .ref 64]) (h' := mk M T) (fun _ => rfl) ?_
  refine R_callD (i := .invokevirtual 249) (kd := 0) (y := M_X8_notThere) (as := [.ref 64, .int (nI e)]) (r := []) (L0 := [some (.ref 64), some (.int (nI e))]) (v := some (.int 0)) (h' := mk M T) (pc' := 5) (st' := [.int 0]) rfl rfl rfl rfl rfl rfl (m_notThere_i he hb b32 b0) ?_
  refine R_go 9 (pc' := 26) (L' := [some (.ref 64), some (.int (nI e)), some (.int 0)]) (st' := [.int (M 62 1), .int (nI e), .ref 64]) (h' := mk M T) (fun _ => rfl) ?_
  refine R_top (y := nI t) (ht0) ?_
  refine R_callD (i := .invokevirtual 206) (kd := 0) (y := M_X8_rightOf) (as := [.ref 64, .int (nI e), .int (nI t)]) (r := []) (L0 := [some (.ref 64), some (.int (nI e)), some (.int (nI t)), none]) (v := some (.int (nI (lst (rgF kd md fc cl cs P t cold lamp) 0 z)))) (h' := mk M T) (pc' := 29) (st' := [.int (nI (lst (rgF kd md fc cl cs P t cold lamp) 0 z))]) rfl rfl rfl rfl rfl rfl (m_rightOf he hz z24 hP h8 hpn hq hc hl c40 l1 h0 ht) ?_
  refine R_ret 1 (pcr := 29) (v := some (.int (nI (lst (rgF kd md fc cl cs P t cold lamp) 0 z)))) (h' := mk M T) (fun _ => rfl) ?_
  exact ⟨rfl, rfl⟩
set_option maxHeartbeats 4000000 in
theorem op_judge {ro : xRO} {M : xM} {T : Nat} (h : Rel M) {i  : Int32} : OpOK ro M_X7_judge M_X8_judge [some (.ref 3), some (.int i), none] [some (.ref 64), some (.int i), none] M T := by
  obtain ⟨P, H, h8, h6, pm, hm, px, hx, a, b1, b2, b3, b4, c2, c3, c4, c5⟩ := rel_all h
  rcases nI_cases i 4 (by omega) with ⟨e, he, rfl⟩ | hi
  · obtain ⟨b, z, bx, bm, b5, zx, zm, z24, bz, nr⟩ := rel_sh h he
    have b32 : b ≤ 32 := by omega
    by_cases b0 : b = 0
    · subst b0
      exact OpOK.of (fun d => x_judge_0 he bx) (fun d => m_judge_0 (M := up M 60 2 (M 60 2 + 1)) he bm) rfl (h.err 2 (by omega))
    · have hq : ∀ i v, i < 24 → v < 100 → (M (53 + 2 * e) i = nI v ↔ M 67 (24 * e + i) = nI v) := fun i v hi hv => numR_v (nr i hi) (by omega) hv
      obtain ⟨cold, cc1, cc2⟩ := c2.2.2.1
      obtain ⟨t, tt1, tt2⟩ := c2.2.2.2.1
      obtain ⟨lamp, ll1, ll2⟩ := c2.2.2.2.2.1
      exact OpOK.of (fun d => x_judge_i he zx z24 bx b32 b0 px h8 (a.2.2.2.2.2.1.trans ll2) ll1 (rel_pn h).1 hq (a.2.2.2.2.1.trans tt2) (by omega) (a.2.2.2.1.trans cc2) cc1) (fun d => m_judge_i he zm z24 bm b32 b0 pm h8 (rel_pn h).2 (fun i hi => rfl) cc2 ll2 cc1 ll1 h.2.2.2.2.2 tt2 (by omega)) rfl h
  · exact OpOK.of (fun d => x_judge_o hi) (fun d => m_judge_o (M := up M 60 1 (M 60 1 + 1)) hi) rfl (h.err 1 (by omega))
