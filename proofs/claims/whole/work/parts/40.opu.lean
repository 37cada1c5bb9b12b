/-! OPERATION sheet -/
def zX (M : xM) (c : Nat) : Nat → xM
  | 0 => M
  | n + 1 => up (zX M c n) c n 0
def zM (M : xM) (e : Nat) : Nat → xM
  | 0 => M
  | n + 1 => up (zM M e n) 67 (24 * e + n) 0
theorem zX_rd {M : xM} {c a b : Nat} : ∀ {n : Nat}, zX M c n a b = if a = c ∧ b < n then 0 else M a b := by
  intro n
  induction n with
  | zero => rw [if_neg (by omega)]; rfl
  | succ n ih =>
    show up (zX M c n) c n 0 a b = _
    rw [up_rd, ih]
    grind
theorem zM_rd {M : xM} {e a b : Nat} : ∀ {n : Nat}, zM M e n a b = if a = 67 ∧ 24 * e ≤ b ∧ b < 24 * e + n then 0 else M a b := by
  intro n
  induction n with
  | zero => rw [if_neg (by omega)]; rfl
  | succ n ih =>
    show up (zM M e n) 67 (24 * e + n) 0 a b = _
    rw [up_rd, ih]
    grind
theorem numR_0 {b : Int32} : numR b 0 0 := ⟨fun _ => ⟨rfl, rfl⟩, fun _ => ⟨rfl, rfl⟩, fun _ => rfl, fun _ => ⟨rfl, rfl⟩⟩
theorem Rel.sheet {M : xM} (h : Rel M) {e z : Nat} {b : Int32} (he : e < 4) (hb : b = 0 ∨ b = 8 ∨ b = 16 ∨ b = 32) (hz : z ≤ 24) (hbz : b = 0 → z = 0) : Rel (zM (up (up (zX (up (up M (52 + 2 * e) 1 b) (52 + 2 * e) 2 (nI z)) (53 + 2 * e) 24) 65 e b) 66 e (nI z)) e 24) := by
  refine h.sheets (fun a q c2 c3 c4 => by funext j; simp only [zM_rd, up_rd, zX_rd]; grind) (fun s hs => ?_)
  obtain ⟨h1, h2, h3, h4, h5, h6⟩ := h.2.2.1 s hs
  obtain ⟨M2, hM2⟩ : ∃ M2, M2 = zM (up (up (zX (up (up M (52 + 2 * e) 1 b) (52 + 2 * e) 2 (nI z)) (53 + 2 * e) 24) 65 e b) 66 e (nI z)) e 24 := ⟨_, rfl⟩
  rw [← hM2]
  have a1 : M2 (52 + 2 * s) 1 = if s = e then b else M (52 + 2 * s) 1 := by rw [hM2]; simp only [zM_rd, up_rd, zX_rd]; grind
  have a2 : M2 (52 + 2 * s) 2 = if s = e then nI z else M (52 + 2 * s) 2 := by rw [hM2]; simp only [zM_rd, up_rd, zX_rd]; grind
  have a3 : M2 65 s = if s = e then b else M 65 s := by rw [hM2]; simp only [zM_rd, up_rd, zX_rd]; grind
  have a4 : M2 66 s = if s = e then nI z else M 66 s := by rw [hM2]; simp only [zM_rd, up_rd, zX_rd]; grind
  have a5 : ∀ i, i < 24 → M2 (53 + 2 * s) i = if s = e then 0 else M (53 + 2 * s) i := by intro i hi; rw [hM2]; simp only [zM_rd, up_rd, zX_rd]; grind
  have a6 : ∀ i, i < 24 → M2 67 (24 * s + i) = if s = e then 0 else M 67 (24 * s + i) := by intro i hi; rw [hM2]; simp only [zM_rd, up_rd, zX_rd]; grind
  rw [a1, a2, a3, a4]
  by_cases q : s = e
  · rw [if_pos q, if_pos q, if_pos q, if_pos q]
    refine ⟨rfl, rfl, hb, ⟨z, hz, rfl⟩, fun w => by rw [hbz w]; rfl, fun i hi => ?_⟩
    rw [a5 i hi, a6 i hi, if_pos q, if_pos q]
    exact numR_0
  · rw [if_neg q, if_neg q, if_neg q, if_neg q]
    refine ⟨h1, h2, h3, h4, h5, fun i hi => ?_⟩
    rw [a5 i hi, a6 i hi, if_neg q, if_neg q]
    exact h6 i hi
set_option maxRecDepth 100000 in
set_option maxHeartbeats 4000000 in
theorem lp_fill {ro : xRO} {d : Nat} {M : xM} {T : Nat} {c m : Nat} (hc : shp[c]? = some (.inr (.inl m))) (m60 : m ≤ 1000) : ∀ (k i : Nat), i + k = m → Rn ro d M_J7_fill_53178 5 [some (.ref (c + 3)), some (.int 0), some (.int (nI i)), some (.int (nI m))] [] (mk (zX M c i) T) (fun r h => r = none ∧ h = mk (zX M c m) T) := by
  intro k
  induction k with
  | zero =>
    intro i hi
    obtain rfl : i = m := by omega
    refine R_if 3 (c := nI i ≤ nI i) (t := 20) (f := 10) (L' := [some (.ref (c + 3)), some (.int 0), some (.int (nI i)), some (.int (nI i))]) (st' := []) (h' := mk (zX M c i) T) (fun _ => rfl) (fun g => ?_) (fun g => ?_)
    · exact R_ret 1 (pcr := 20) (v := none) (h' := mk (zX M c i) T) (fun _ => rfl) ⟨rfl, rfl⟩
    · exact absurd Int32.le_rfl g
  | succ k ih =>
    intro i hi
    refine R_if 3 (c := nI m ≤ nI i) (t := 20) (f := 10) (L' := [some (.ref (c + 3)), some (.int 0), some (.int (nI i)), some (.int (nI m))]) (st' := []) (h' := mk (zX M c i) T) (fun _ => rfl) (fun g => ?_) (fun g => ?_)
    · exact absurd ((nI_leI (by omega) (by omega)).mp g) (by omega)
    · refine R_go 3 (pc' := 13) (L' := [some (.ref (c + 3)), some (.int 0), some (.int (nI i)), some (.int (nI m))]) (st' := [.int 0, .int (nI i), .ref (c + 3)]) (h' := mk (zX M c i) T) (fun _ => rfl) ?_
      refine R_iast (c := c) (n := m) (j := i) hc rfl (by omega) (by omega) ?_
      refine R_go 1 (pc' := 17) (L' := [some (.ref (c + 3)), some (.int 0), some (.int (nI i + 1)), some (.int (nI m))]) (st' := []) (h' := mk (up (zX M c i) c i 0) T) (fun _ => rfl) ?_
      rw [nI_1]
      refine R_go 1 (pc' := 5) (L' := [some (.ref (c + 3)), some (.int 0), some (.int (nI (i + 1))), some (.int (nI m))]) (st' := []) (h' := mk (zX M c (i + 1)) T) (fun _ => rfl) ?_
      exact ih (i + 1) (by omega)
set_option maxRecDepth 100000 in
set_option maxHeartbeats 4000000 in
theorem c_fill {ro : xRO} {d : Nat} {M : xM} {T : Nat} {c m : Nat} (hc : shp[c]? = some (.inr (.inl m))) (m60 : m ≤ 1000) : Rn ro d M_J7_fill_53178 0 [some (.ref (c + 3)), some (.int 0), none, none] [] (mk M T) (fun r h => r = none ∧ h = mk (zX M c m) T) := by
  refine R_go 3 (pc' := 3) (L' := [some (.ref (c + 3)), some (.int 0), some (.int 0), none]) (st' := [.ref (c + 3)]) (h' := mk M T) (fun _ => rfl) ?_
  refine R_alen (c := c) hc rfl ?_
  refine R_go 1 (pc' := 5) (L' := [some (.ref (c + 3)), some (.int 0), some (.int 0), some (.int (nI m))]) (st' := []) (h' := mk M T) (fun _ => rfl) ?_
  exact lp_fill hc m60 m 0 (Nat.zero_add m)
set_option maxRecDepth 100000 in
set_option maxHeartbeats 4000000 in
theorem lp_zero {ro : xRO} {d : Nat} {M : xM} {T : Nat} {Q : Option Value → xH → Prop} {e : Nat} (he : e < 4) {v w : Int32} : ∀ (k : Nat) (i : Nat), i + k = 24 → (Rn ro (d + 90) M_X8_sheet 119 [some (.ref 64), some (.int (nI e)), some (.int v), some (.int w), some (.int 24)] [] (mk (zM M e 24) T) Q) → Rn ro (d + 90) M_X8_sheet 93 [some (.ref 64), some (.int (nI e)), some (.int v), some (.int w), some (.int (nI i))] [] (mk (zM M e i) T) Q := by
  intro k
  induction k with
  | zero =>
    intro i hi k1
    obtain rfl : i = 24 := by omega
    refine R_go 3 (pc' := 119) (L' := [some (.ref 64), some (.int (nI e)), some (.int v), some (.int w), some (.int 24)]) (st' := []) (h' := mk (zM M e 24) T) (fun _ => rfl) ?_
    exact k1
  | succ k ih =>
    intro i hi k1
    refine R_if 3 (c := 24 ≤ (nI i)) (t := 119) (f := 100) (L' := [some (.ref 64), some (.int (nI e)), some (.int v), some (.int w), some (.int (nI i))]) (st' := []) (h' := mk (zM M e i) T) (fun _ => rfl) (fun g1 => ?_) (fun g1 => ?_)
    · replace g1 : 24 ≤ i := (nI_leI (a := 24) (b := i) (by omega) (by omega)).mp g1
      omega
    · replace g1 : ¬ 24 ≤ i := fun q => g1 ((nI_leI (a := 24) (b := i) (by omega) (by omega)).mpr q)
      refine R_go 5 (pc' := 108) (L' := [some (.ref 64), some (.int (nI e)), some (.int v), some (.int w), some (.int (nI i))]) (st' := [.int (24 * nI e), .ref 70]) (h' := mk (zM M e i) T) (fun _ => rfl) ?_
      refine R_top (pk_mul 24 e) ?_
      refine R_go 2 (pc' := 111) (L' := [some (.ref 64), some (.int (nI e)), some (.int v), some (.int w), some (.int (nI i))]) (st' := [.int (nI (24 * e) + nI i), .ref 70]) (h' := mk (zM M e i) T) (fun _ => rfl) ?_
      refine R_top (nI_add (24 * e) i) ?_
      refine R_go 1 (pc' := 112) (L' := [some (.ref 64), some (.int (nI e)), some (.int v), some (.int w), some (.int (nI i))]) (st' := [.int 0, .int (nI ((24 * e) + i)), .ref 70]) (h' := mk (zM M e i) T) (fun _ => rfl) ?_
      refine R_iast (c := 67) (n := 96) (j := (24 * e) + i) rfl rfl (by omega) (by decide) ?_
      refine R_go 1 (pc' := 116) (L' := [some (.ref 64), some (.int (nI e)), some (.int v), some (.int w), some (.int ((nI i) + 1))]) (st' := []) (h' := mk (up (zM M e i) 67 ((24 * e) + i) 0) T) (fun _ => rfl) ?_
      rw [nI_1]
      refine R_go 1 (pc' := 93) (L' := [some (.ref 64), some (.int (nI e)), some (.int v), some (.int w), some (.int (nI (i + 1)))]) (st' := []) (h' := mk (up (zM M e i) 67 ((24 * e) + i) 0) T) (fun _ => rfl) ?_
      exact ih (i + 1) (by omega) k1
set_option maxRecDepth 100000 in
set_option maxHeartbeats 4000000 in
theorem x_sheet_o {ro : xRO} {d : Nat} {M : xM} {T : Nat} {i : Int32} (hi : ¬ (0 ≤ i ∧ i < 4)) {v w : Int32} : Rn ro (d + 90) M_X7_sheet 0 [some (.ref 3), some (.int i), some (.int v), some (.int w), none] [] (mk M T) (fun r h => r = some (.int (-1000000001)) ∧ h = mk (up M 60 1 (M 60 1 + 1)) T) := by
  refine R_go 2 (pc' := 2) (L' := [some (.ref 3), some (.int i), some (.int v), some (.int w), none]) (st' := [.int i, .ref 3]) (h' := mk M T) (fun _ => rfl) ?_
  refine R_callD (i := .invokevirtual 180) (kd := 0) (y := M_X7_sheetAt) (as := [.ref 3, .int i]) (r := []) (L0 := [some (.ref 3), some (.int i)]) (v := some (.null)) (h' := mk M T) (pc' := 5) (st' := [.null]) rfl rfl rfl rfl rfl rfl (c_sheetAt_out hi) ?_
  refine R_go 5 (pc' := 36) (L' := [some (.ref 3), some (.int i), some (.int v), some (.int w), some (.null)]) (st' := [.int 1, .ref 3]) (h' := mk M T) (fun _ => rfl) ?_
  refine R_callD (i := .invokevirtual 75) (kd := 0) (y := M_X7_error) (as := [.ref 3, .int 1]) (r := []) (L0 := [some (.ref 3), some (.int 1)]) (v := some (.int (-1000000001))) (h' := mk (up M 60 1 (M 60 1 + 1)) T) (pc' := 39) (st' := [.int (-1000000001)]) rfl rfl rfl rfl rfl rfl (c_error_1) ?_
  refine R_ret 1 (pcr := 39) (v := some (.int (-1000000001))) (h' := mk (up M 60 1 (M 60 1 + 1)) T) (fun _ => rfl) ?_
  exact ⟨rfl, rfl⟩
set_option maxRecDepth 100000 in
set_option maxHeartbeats 4000000 in
theorem m_sheet_o {ro : xRO} {d : Nat} {M : xM} {T : Nat} {i : Int32} (hi : ¬ (0 ≤ i ∧ i < 4)) {v w : Int32} : Rn ro (d + 90) M_X8_sheet 0 [some (.ref 64), some (.int i), some (.int v), some (.int w), none] [] (mk M T) (fun r h => r = some (.int (-1000000001)) ∧ h = mk (up M 64 1 (M 64 1 + 1)) T) := by
  refine R_go 1 (pc' := 1) (L' := [some (.ref 64), some (.int i), some (.int v), some (.int w), none]) (st' := [.int i]) (h' := mk M T) (fun _ => rfl) ?_
  refine R_call2 (i := .invokestatic 168) (kd := 1) (y := M_X8_isSheet) (as := [.int i]) (r := []) (L0 := [some (.int i)]) (v1 := some (.int 1)) (v2 := some (.int 0)) (h1' := mk M T) (h2' := mk M T) (pc' := 4) (st1 := [.int 1]) (st2 := [.int 0]) rfl rfl rfl rfl rfl rfl (m_isSheet) (fun g1 => ?_) (fun g1 => ?_)
  · exact absurd g1 (sh_out hi)
  · refine R_go 3 (pc' := 32) (L' := [some (.ref 64), some (.int i), some (.int v), some (.int w), none]) (st' := [.int (-1000000001), .ref 64]) (h' := mk M T) (fun _ => rfl) ?_
    refine R_callD (i := .invokevirtual 81) (kd := 0) (y := M_X8_error) (as := [.ref 64, .int (-1000000001)]) (r := []) (L0 := [some (.ref 64), some (.int (-1000000001))]) (v := some (.int (-1000000001))) (h' := mk (up M 64 1 (M 64 1 + 1)) T) (pc' := 35) (st' := [.int (-1000000001)]) rfl rfl rfl rfl rfl rfl (m_error_1) ?_
    refine R_ret 1 (pcr := 35) (v := some (.int (-1000000001))) (h' := mk (up M 64 1 (M 64 1 + 1)) T) (fun _ => rfl) ?_
    exact ⟨rfl, rfl⟩
set_option maxRecDepth 100000 in
set_option maxHeartbeats 4000000 in
theorem x_sheet_v {ro : xRO} {d : Nat} {M : xM} {T : Nat} {e : Nat} (he : e < 4) {v w : Int32} (v0 : ¬ v = 0) (v8 : ¬ v = 8) (v16 : ¬ v = 16) (v32 : ¬ v = 32) : Rn ro (d + 90) M_X7_sheet 0 [some (.ref 3), some (.int (nI e)), some (.int v), some (.int w), none] [] (mk M T) (fun r h => r = some (.int (-1000000001)) ∧ h = mk (up M 60 1 (M 60 1 + 1)) T) := by
  refine R_go 2 (pc' := 2) (L' := [some (.ref 3), some (.int (nI e)), some (.int v), some (.int w), none]) (st' := [.int (nI e), .ref 3]) (h' := mk M T) (fun _ => rfl) ?_
  refine R_callD (i := .invokevirtual 180) (kd := 0) (y := M_X7_sheetAt) (as := [.ref 3, .int (nI e)]) (r := []) (L0 := [some (.ref 3), some (.int (nI e))]) (v := some (.ref (52 + 2 * e + 3))) (h' := mk M T) (pc' := 5) (st' := [.ref (52 + 2 * e + 3)]) rfl rfl rfl rfl rfl rfl (c_sheetAt_in (n := e) (by omega)) ?_
  refine R_if 5 (c := v = 0) (t := 40) (f := 16) (L' := [some (.ref 3), some (.int (nI e)), some (.int v), some (.int w), some (.ref (52 + 2 * e + 3))]) (st' := []) (h' := mk M T) (fun _ => rfl) (fun g1 => ?_) (fun g1 => ?_)
  · exact absurd g1 (v0)
  · refine R_if 3 (c := v = 8) (t := 40) (f := 22) (L' := [some (.ref 3), some (.int (nI e)), some (.int v), some (.int w), some (.ref (52 + 2 * e + 3))]) (st' := []) (h' := mk M T) (fun _ => rfl) (fun g2 => ?_) (fun g2 => ?_)
    · exact absurd g2 (v8)
    · refine R_if 3 (c := v = 16) (t := 40) (f := 28) (L' := [some (.ref 3), some (.int (nI e)), some (.int v), some (.int w), some (.ref (52 + 2 * e + 3))]) (st' := []) (h' := mk M T) (fun _ => rfl) (fun g3 => ?_) (fun g3 => ?_)
      · exact absurd g3 (v16)
      · refine R_if 3 (c := v = 32) (t := 40) (f := 34) (L' := [some (.ref 3), some (.int (nI e)), some (.int v), some (.int w), some (.ref (52 + 2 * e + 3))]) (st' := []) (h' := mk M T) (fun _ => rfl) (fun g4 => ?_) (fun g4 => ?_)
        · exact absurd g4 (v32)
        · refine R_go 2 (pc' := 36) (L' := [some (.ref 3), some (.int (nI e)), some (.int v), some (.int w), some (.ref (52 + 2 * e + 3))]) (st' := [.int 1, .ref 3]) (h' := mk M T) (fun _ => rfl) ?_
          refine R_callD (i := .invokevirtual 75) (kd := 0) (y := M_X7_error) (as := [.ref 3, .int 1]) (r := []) (L0 := [some (.ref 3), some (.int 1)]) (v := some (.int (-1000000001))) (h' := mk (up M 60 1 (M 60 1 + 1)) T) (pc' := 39) (st' := [.int (-1000000001)]) rfl rfl rfl rfl rfl rfl (c_error_1) ?_
          refine R_ret 1 (pcr := 39) (v := some (.int (-1000000001))) (h' := mk (up M 60 1 (M 60 1 + 1)) T) (fun _ => rfl) ?_
          exact ⟨rfl, rfl⟩
set_option maxRecDepth 100000 in
set_option maxHeartbeats 4000000 in
theorem m_sheet_v {ro : xRO} {d : Nat} {M : xM} {T : Nat} {e : Nat} (he : e < 4) {v w : Int32} (v0 : ¬ v = 0) (v8 : ¬ v = 8) (v16 : ¬ v = 16) (v32 : ¬ v = 32) : Rn ro (d + 90) M_X8_sheet 0 [some (.ref 64), some (.int (nI e)), some (.int v), some (.int w), none] [] (mk M T) (fun r h => r = some (.int (-1000000001)) ∧ h = mk (up M 64 1 (M 64 1 + 1)) T) := by
  refine R_go 1 (pc' := 1) (L' := [some (.ref 64), some (.int (nI e)), some (.int v), some (.int w), none]) (st' := [.int (nI e)]) (h' := mk M T) (fun _ => rfl) ?_
  refine R_call2 (i := .invokestatic 168) (kd := 1) (y := M_X8_isSheet) (as := [.int (nI e)]) (r := []) (L0 := [some (.int (nI e))]) (v1 := some (.int 1)) (v2 := some (.int 0)) (h1' := mk M T) (h2' := mk M T) (pc' := 4) (st1 := [.int 1]) (st2 := [.int 0]) rfl rfl rfl rfl rfl rfl (m_isSheet) (fun g1 => ?_) (fun g1 => ?_)
  · refine R_if 3 (c := v = 0) (t := 36) (f := 11) (L' := [some (.ref 64), some (.int (nI e)), some (.int v), some (.int w), none]) (st' := []) (h' := mk M T) (fun _ => rfl) (fun g2 => ?_) (fun g2 => ?_)
    · exact absurd g2 (v0)
    · refine R_if 3 (c := v = 8) (t := 36) (f := 17) (L' := [some (.ref 64), some (.int (nI e)), some (.int v), some (.int w), none]) (st' := []) (h' := mk M T) (fun _ => rfl) (fun g3 => ?_) (fun g3 => ?_)
      · exact absurd g3 (v8)
      · refine R_if 3 (c := v = 16) (t := 36) (f := 23) (L' := [some (.ref 64), some (.int (nI e)), some (.int v), some (.int w), none]) (st' := []) (h' := mk M T) (fun _ => rfl) (fun g4 => ?_) (fun g4 => ?_)
        · exact absurd g4 (v16)
        · refine R_if 3 (c := v = 32) (t := 36) (f := 29) (L' := [some (.ref 64), some (.int (nI e)), some (.int v), some (.int w), none]) (st' := []) (h' := mk M T) (fun _ => rfl) (fun g5 => ?_) (fun g5 => ?_)
          · exact absurd g5 (v32)
          · refine R_go 2 (pc' := 32) (L' := [some (.ref 64), some (.int (nI e)), some (.int v), some (.int w), none]) (st' := [.int (-1000000001), .ref 64]) (h' := mk M T) (fun _ => rfl) ?_
            refine R_callD (i := .invokevirtual 81) (kd := 0) (y := M_X8_error) (as := [.ref 64, .int (-1000000001)]) (r := []) (L0 := [some (.ref 64), some (.int (-1000000001))]) (v := some (.int (-1000000001))) (h' := mk (up M 64 1 (M 64 1 + 1)) T) (pc' := 35) (st' := [.int (-1000000001)]) rfl rfl rfl rfl rfl rfl (m_error_1) ?_
            refine R_ret 1 (pcr := 35) (v := some (.int (-1000000001))) (h' := mk (up M 64 1 (M 64 1 + 1)) T) (fun _ => rfl) ?_
            exact ⟨rfl, rfl⟩
  · exact absurd (nI_in2 (a := 0) (b := 3) (by omega) (by omega) (by omega)) g1
set_option maxRecDepth 100000 in
set_option maxHeartbeats 4000000 in
theorem x_sheet_n {ro : xRO} {d : Nat} {M : xM} {T : Nat} {e : Nat} (he : e < 4) {v w : Int32} (hv : v = 8 ∨ v = 16 ∨ v = 32) (hw : w < 0) : Rn ro (d + 90) M_X7_sheet 0 [some (.ref 3), some (.int (nI e)), some (.int v), some (.int w), none] [] (mk M T) (fun r h => r = some (.int (-1000000003)) ∧ h = mk (up M 60 3 (M 60 3 + 1)) T) := by
  refine R_go 2 (pc' := 2) (L' := [some (.ref 3), some (.int (nI e)), some (.int v), some (.int w), none]) (st' := [.int (nI e), .ref 3]) (h' := mk M T) (fun _ => rfl) ?_
  refine R_callD (i := .invokevirtual 180) (kd := 0) (y := M_X7_sheetAt) (as := [.ref 3, .int (nI e)]) (r := []) (L0 := [some (.ref 3), some (.int (nI e))]) (v := some (.ref (52 + 2 * e + 3))) (h' := mk M T) (pc' := 5) (st' := [.ref (52 + 2 * e + 3)]) rfl rfl rfl rfl rfl rfl (c_sheetAt_in (n := e) (by omega)) ?_
  refine R_if 5 (c := v = 0) (t := 40) (f := 16) (L' := [some (.ref 3), some (.int (nI e)), some (.int v), some (.int w), some (.ref (52 + 2 * e + 3))]) (st' := []) (h' := mk M T) (fun _ => rfl) (fun g1 => ?_) (fun g1 => ?_)
  · exact absurd g1 (by rcases hv with q | q | q <;> rw [q] <;> decide)
  · refine R_if 3 (c := v = 8) (t := 40) (f := 22) (L' := [some (.ref 3), some (.int (nI e)), some (.int v), some (.int w), some (.ref (52 + 2 * e + 3))]) (st' := []) (h' := mk M T) (fun _ => rfl) (fun g2 => ?_) (fun g2 => ?_)
    · refine R_if 2 (c := v = 0) (t := 54) (f := 44) (L' := [some (.ref 3), some (.int (nI e)), some (.int v), some (.int w), some (.ref (52 + 2 * e + 3))]) (st' := []) (h' := mk M T) (fun _ => rfl) (fun g3 => ?_) (fun g3 => ?_)
      · exact absurd g3 (by rcases hv with q | q | q <;> rw [q] <;> decide)
      · refine R_if 2 (c := 0 ≤ w) (t := 54) (f := 48) (L' := [some (.ref 3), some (.int (nI e)), some (.int v), some (.int w), some (.ref (52 + 2 * e + 3))]) (st' := []) (h' := mk M T) (fun _ => rfl) (fun g4 => ?_) (fun g4 => ?_)
        · exact absurd g4 (fun q => absurd hw (k2_nlt q))
        · refine R_go 2 (pc' := 50) (L' := [some (.ref 3), some (.int (nI e)), some (.int v), some (.int w), some (.ref (52 + 2 * e + 3))]) (st' := [.int 3, .ref 3]) (h' := mk M T) (fun _ => rfl) ?_
          refine R_callD (i := .invokevirtual 75) (kd := 0) (y := M_X7_error) (as := [.ref 3, .int 3]) (r := []) (L0 := [some (.ref 3), some (.int 3)]) (v := some (.int (-1000000003))) (h' := mk (up M 60 3 (M 60 3 + 1)) T) (pc' := 53) (st' := [.int (-1000000003)]) rfl rfl rfl rfl rfl rfl (c_error_3) ?_
          refine R_ret 1 (pcr := 53) (v := some (.int (-1000000003))) (h' := mk (up M 60 3 (M 60 3 + 1)) T) (fun _ => rfl) ?_
          exact ⟨rfl, rfl⟩
    · refine R_if 3 (c := v = 16) (t := 40) (f := 28) (L' := [some (.ref 3), some (.int (nI e)), some (.int v), some (.int w), some (.ref (52 + 2 * e + 3))]) (st' := []) (h' := mk M T) (fun _ => rfl) (fun g5 => ?_) (fun g5 => ?_)
      · refine R_if 2 (c := v = 0) (t := 54) (f := 44) (L' := [some (.ref 3), some (.int (nI e)), some (.int v), some (.int w), some (.ref (52 + 2 * e + 3))]) (st' := []) (h' := mk M T) (fun _ => rfl) (fun g6 => ?_) (fun g6 => ?_)
        · exact absurd g6 (by rcases hv with q | q | q <;> rw [q] <;> decide)
        · refine R_if 2 (c := 0 ≤ w) (t := 54) (f := 48) (L' := [some (.ref 3), some (.int (nI e)), some (.int v), some (.int w), some (.ref (52 + 2 * e + 3))]) (st' := []) (h' := mk M T) (fun _ => rfl) (fun g7 => ?_) (fun g7 => ?_)
          · exact absurd g7 (fun q => absurd hw (k2_nlt q))
          · refine R_go 2 (pc' := 50) (L' := [some (.ref 3), some (.int (nI e)), some (.int v), some (.int w), some (.ref (52 + 2 * e + 3))]) (st' := [.int 3, .ref 3]) (h' := mk M T) (fun _ => rfl) ?_
            refine R_callD (i := .invokevirtual 75) (kd := 0) (y := M_X7_error) (as := [.ref 3, .int 3]) (r := []) (L0 := [some (.ref 3), some (.int 3)]) (v := some (.int (-1000000003))) (h' := mk (up M 60 3 (M 60 3 + 1)) T) (pc' := 53) (st' := [.int (-1000000003)]) rfl rfl rfl rfl rfl rfl (c_error_3) ?_
            refine R_ret 1 (pcr := 53) (v := some (.int (-1000000003))) (h' := mk (up M 60 3 (M 60 3 + 1)) T) (fun _ => rfl) ?_
            exact ⟨rfl, rfl⟩
      · refine R_if 3 (c := v = 32) (t := 40) (f := 34) (L' := [some (.ref 3), some (.int (nI e)), some (.int v), some (.int w), some (.ref (52 + 2 * e + 3))]) (st' := []) (h' := mk M T) (fun _ => rfl) (fun g8 => ?_) (fun g8 => ?_)
        · refine R_if 2 (c := v = 0) (t := 54) (f := 44) (L' := [some (.ref 3), some (.int (nI e)), some (.int v), some (.int w), some (.ref (52 + 2 * e + 3))]) (st' := []) (h' := mk M T) (fun _ => rfl) (fun g9 => ?_) (fun g9 => ?_)
          · exact absurd g9 (by rcases hv with q | q | q <;> rw [q] <;> decide)
          · refine R_if 2 (c := 0 ≤ w) (t := 54) (f := 48) (L' := [some (.ref 3), some (.int (nI e)), some (.int v), some (.int w), some (.ref (52 + 2 * e + 3))]) (st' := []) (h' := mk M T) (fun _ => rfl) (fun g10 => ?_) (fun g10 => ?_)
            · exact absurd g10 (fun q => absurd hw (k2_nlt q))
            · refine R_go 2 (pc' := 50) (L' := [some (.ref 3), some (.int (nI e)), some (.int v), some (.int w), some (.ref (52 + 2 * e + 3))]) (st' := [.int 3, .ref 3]) (h' := mk M T) (fun _ => rfl) ?_
              refine R_callD (i := .invokevirtual 75) (kd := 0) (y := M_X7_error) (as := [.ref 3, .int 3]) (r := []) (L0 := [some (.ref 3), some (.int 3)]) (v := some (.int (-1000000003))) (h' := mk (up M 60 3 (M 60 3 + 1)) T) (pc' := 53) (st' := [.int (-1000000003)]) rfl rfl rfl rfl rfl rfl (c_error_3) ?_
              refine R_ret 1 (pcr := 53) (v := some (.int (-1000000003))) (h' := mk (up M 60 3 (M 60 3 + 1)) T) (fun _ => rfl) ?_
              exact ⟨rfl, rfl⟩
        · refine R_go 2 (pc' := 36) (L' := [some (.ref 3), some (.int (nI e)), some (.int v), some (.int w), some (.ref (52 + 2 * e + 3))]) (st' := [.int 1, .ref 3]) (h' := mk M T) (fun _ => rfl) ?_
          refine R_callD (i := .invokevirtual 75) (kd := 0) (y := M_X7_error) (as := [.ref 3, .int 1]) (r := []) (L0 := [some (.ref 3), some (.int 1)]) (v := some (.int (-1000000001))) (h' := mk (up M 60 1 (M 60 1 + 1)) T) (pc' := 39) (st' := [.int (-1000000001)]) rfl rfl rfl rfl rfl rfl (c_error_1) ?_
          refine R_ret 1 (pcr := 39) (v := some (.int (-1000000001))) (h' := mk (up M 60 1 (M 60 1 + 1)) T) (fun _ => rfl) ?_
          exfalso; rcases hv with q | q | q <;> contradiction
set_option maxRecDepth 100000 in
set_option maxHeartbeats 4000000 in
theorem m_sheet_n {ro : xRO} {d : Nat} {M : xM} {T : Nat} {e : Nat} (he : e < 4) {v w : Int32} (hv : v = 8 ∨ v = 16 ∨ v = 32) (hw : w < 0) : Rn ro (d + 90) M_X8_sheet 0 [some (.ref 64), some (.int (nI e)), some (.int v), some (.int w), none] [] (mk M T) (fun r h => r = some (.int (-1000000003)) ∧ h = mk (up M 64 3 (M 64 3 + 1)) T) := by
  refine R_go 1 (pc' := 1) (L' := [some (.ref 64), some (.int (nI e)), some (.int v), some (.int w), none]) (st' := [.int (nI e)]) (h' := mk M T) (fun _ => rfl) ?_
  refine R_call2 (i := .invokestatic 168) (kd := 1) (y := M_X8_isSheet) (as := [.int (nI e)]) (r := []) (L0 := [some (.int (nI e))]) (v1 := some (.int 1)) (v2 := some (.int 0)) (h1' := mk M T) (h2' := mk M T) (pc' := 4) (st1 := [.int 1]) (st2 := [.int 0]) rfl rfl rfl rfl rfl rfl (m_isSheet) (fun g1 => ?_) (fun g1 => ?_)
  · refine R_if 3 (c := v = 0) (t := 36) (f := 11) (L' := [some (.ref 64), some (.int (nI e)), some (.int v), some (.int w), none]) (st' := []) (h' := mk M T) (fun _ => rfl) (fun g2 => ?_) (fun g2 => ?_)
    · exact absurd g2 (by rcases hv with q | q | q <;> rw [q] <;> decide)
    · refine R_if 3 (c := v = 8) (t := 36) (f := 17) (L' := [some (.ref 64), some (.int (nI e)), some (.int v), some (.int w), none]) (st' := []) (h' := mk M T) (fun _ => rfl) (fun g3 => ?_) (fun g3 => ?_)
      · refine R_if 2 (c := v ≤ 0) (t := 51) (f := 40) (L' := [some (.ref 64), some (.int (nI e)), some (.int v), some (.int w), none]) (st' := []) (h' := mk M T) (fun _ => rfl) (fun g4 => ?_) (fun g4 => ?_)
        · exact absurd g4 (by rcases hv with q | q | q <;> rw [q] <;> decide)
        · refine R_if 2 (c := 0 ≤ w) (t := 51) (f := 44) (L' := [some (.ref 64), some (.int (nI e)), some (.int v), some (.int w), none]) (st' := []) (h' := mk M T) (fun _ => rfl) (fun g5 => ?_) (fun g5 => ?_)
          · exact absurd g5 (fun q => absurd hw (k2_nlt q))
          · refine R_go 2 (pc' := 47) (L' := [some (.ref 64), some (.int (nI e)), some (.int v), some (.int w), none]) (st' := [.int (-1000000003), .ref 64]) (h' := mk M T) (fun _ => rfl) ?_
            refine R_callD (i := .invokevirtual 81) (kd := 0) (y := M_X8_error) (as := [.ref 64, .int (-1000000003)]) (r := []) (L0 := [some (.ref 64), some (.int (-1000000003))]) (v := some (.int (-1000000003))) (h' := mk (up M 64 3 (M 64 3 + 1)) T) (pc' := 50) (st' := [.int (-1000000003)]) rfl rfl rfl rfl rfl rfl (m_error_3) ?_
            refine R_ret 1 (pcr := 50) (v := some (.int (-1000000003))) (h' := mk (up M 64 3 (M 64 3 + 1)) T) (fun _ => rfl) ?_
            exact ⟨rfl, rfl⟩
      · refine R_if 3 (c := v = 16) (t := 36) (f := 23) (L' := [some (.ref 64), some (.int (nI e)), some (.int v), some (.int w), none]) (st' := []) (h' := mk M T) (fun _ => rfl) (fun g6 => ?_) (fun g6 => ?_)
        · refine R_if 2 (c := v ≤ 0) (t := 51) (f := 40) (L' := [some (.ref 64), some (.int (nI e)), some (.int v), some (.int w), none]) (st' := []) (h' := mk M T) (fun _ => rfl) (fun g7 => ?_) (fun g7 => ?_)
          · exact absurd g7 (by rcases hv with q | q | q <;> rw [q] <;> decide)
          · refine R_if 2 (c := 0 ≤ w) (t := 51) (f := 44) (L' := [some (.ref 64), some (.int (nI e)), some (.int v), some (.int w), none]) (st' := []) (h' := mk M T) (fun _ => rfl) (fun g8 => ?_) (fun g8 => ?_)
            · exact absurd g8 (fun q => absurd hw (k2_nlt q))
            · refine R_go 2 (pc' := 47) (L' := [some (.ref 64), some (.int (nI e)), some (.int v), some (.int w), none]) (st' := [.int (-1000000003), .ref 64]) (h' := mk M T) (fun _ => rfl) ?_
              refine R_callD (i := .invokevirtual 81) (kd := 0) (y := M_X8_error) (as := [.ref 64, .int (-1000000003)]) (r := []) (L0 := [some (.ref 64), some (.int (-1000000003))]) (v := some (.int (-1000000003))) (h' := mk (up M 64 3 (M 64 3 + 1)) T) (pc' := 50) (st' := [.int (-1000000003)]) rfl rfl rfl rfl rfl rfl (m_error_3) ?_
              refine R_ret 1 (pcr := 50) (v := some (.int (-1000000003))) (h' := mk (up M 64 3 (M 64 3 + 1)) T) (fun _ => rfl) ?_
              exact ⟨rfl, rfl⟩
        · refine R_if 3 (c := v = 32) (t := 36) (f := 29) (L' := [some (.ref 64), some (.int (nI e)), some (.int v), some (.int w), none]) (st' := []) (h' := mk M T) (fun _ => rfl) (fun g9 => ?_) (fun g9 => ?_)
          · refine R_if 2 (c := v ≤ 0) (t := 51) (f := 40) (L' := [some (.ref 64), some (.int (nI e)), some (.int v), some (.int w), none]) (st' := []) (h' := mk M T) (fun _ => rfl) (fun g10 => ?_) (fun g10 => ?_)
            · exact absurd g10 (by rcases hv with q | q | q <;> rw [q] <;> decide)
            · refine R_if 2 (c := 0 ≤ w) (t := 51) (f := 44) (L' := [some (.ref 64), some (.int (nI e)), some (.int v), some (.int w), none]) (st' := []) (h' := mk M T) (fun _ => rfl) (fun g11 => ?_) (fun g11 => ?_)
              · exact absurd g11 (fun q => absurd hw (k2_nlt q))
              · refine R_go 2 (pc' := 47) (L' := [some (.ref 64), some (.int (nI e)), some (.int v), some (.int w), none]) (st' := [.int (-1000000003), .ref 64]) (h' := mk M T) (fun _ => rfl) ?_
                refine R_callD (i := .invokevirtual 81) (kd := 0) (y := M_X8_error) (as := [.ref 64, .int (-1000000003)]) (r := []) (L0 := [some (.ref 64), some (.int (-1000000003))]) (v := some (.int (-1000000003))) (h' := mk (up M 64 3 (M 64 3 + 1)) T) (pc' := 50) (st' := [.int (-1000000003)]) rfl rfl rfl rfl rfl rfl (m_error_3) ?_
                refine R_ret 1 (pcr := 50) (v := some (.int (-1000000003))) (h' := mk (up M 64 3 (M 64 3 + 1)) T) (fun _ => rfl) ?_
                exact ⟨rfl, rfl⟩
          · refine R_go 2 (pc' := 32) (L' := [some (.ref 64), some (.int (nI e)), some (.int v), some (.int w), none]) (st' := [.int (-1000000001), .ref 64]) (h' := mk M T) (fun _ => rfl) ?_
            refine R_callD (i := .invokevirtual 81) (kd := 0) (y := M_X8_error) (as := [.ref 64, .int (-1000000001)]) (r := []) (L0 := [some (.ref 64), some (.int (-1000000001))]) (v := some (.int (-1000000001))) (h' := mk (up M 64 1 (M 64 1 + 1)) T) (pc' := 35) (st' := [.int (-1000000001)]) rfl rfl rfl rfl rfl rfl (m_error_1) ?_
            refine R_ret 1 (pcr := 35) (v := some (.int (-1000000001))) (h' := mk (up M 64 1 (M 64 1 + 1)) T) (fun _ => rfl) ?_
            exfalso; rcases hv with q | q | q <;> contradiction
  · exact absurd (nI_in2 (a := 0) (b := 3) (by omega) (by omega) (by omega)) g1
set_option maxRecDepth 100000 in
set_option maxHeartbeats 4000000 in
theorem x_sheet_b {ro : xRO} {d : Nat} {M : xM} {T : Nat} {e : Nat} (he : e < 4) {v w : Int32} (hv : v = 8 ∨ v = 16 ∨ v = 32) (hw : 24 < w) : Rn ro (d + 90) M_X7_sheet 0 [some (.ref 3), some (.int (nI e)), some (.int v), some (.int w), none] [] (mk M T) (fun r h => r = some (.int (-1000000001)) ∧ h = mk (up M 60 1 (M 60 1 + 1)) T) := by
  refine R_go 2 (pc' := 2) (L' := [some (.ref 3), some (.int (nI e)), some (.int v), some (.int w), none]) (st' := [.int (nI e), .ref 3]) (h' := mk M T) (fun _ => rfl) ?_
  refine R_callD (i := .invokevirtual 180) (kd := 0) (y := M_X7_sheetAt) (as := [.ref 3, .int (nI e)]) (r := []) (L0 := [some (.ref 3), some (.int (nI e))]) (v := some (.ref (52 + 2 * e + 3))) (h' := mk M T) (pc' := 5) (st' := [.ref (52 + 2 * e + 3)]) rfl rfl rfl rfl rfl rfl (c_sheetAt_in (n := e) (by omega)) ?_
  refine R_if 5 (c := v = 0) (t := 40) (f := 16) (L' := [some (.ref 3), some (.int (nI e)), some (.int v), some (.int w), some (.ref (52 + 2 * e + 3))]) (st' := []) (h' := mk M T) (fun _ => rfl) (fun g1 => ?_) (fun g1 => ?_)
  · exact absurd g1 (by rcases hv with q | q | q <;> rw [q] <;> decide)
  · refine R_if 3 (c := v = 8) (t := 40) (f := 22) (L' := [some (.ref 3), some (.int (nI e)), some (.int v), some (.int w), some (.ref (52 + 2 * e + 3))]) (st' := []) (h' := mk M T) (fun _ => rfl) (fun g2 => ?_) (fun g2 => ?_)
    · refine R_if 2 (c := v = 0) (t := 54) (f := 44) (L' := [some (.ref 3), some (.int (nI e)), some (.int v), some (.int w), some (.ref (52 + 2 * e + 3))]) (st' := []) (h' := mk M T) (fun _ => rfl) (fun g3 => ?_) (fun g3 => ?_)
      · exact absurd g3 (by rcases hv with q | q | q <;> rw [q] <;> decide)
      · refine R_if 2 (c := 0 ≤ w) (t := 54) (f := 48) (L' := [some (.ref 3), some (.int (nI e)), some (.int v), some (.int w), some (.ref (52 + 2 * e + 3))]) (st' := []) (h' := mk M T) (fun _ => rfl) (fun g4 => ?_) (fun g4 => ?_)
        · refine R_if 2 (c := v = 0) (t := 70) (f := 58) (L' := [some (.ref 3), some (.int (nI e)), some (.int v), some (.int w), some (.ref (52 + 2 * e + 3))]) (st' := []) (h' := mk M T) (fun _ => rfl) (fun g5 => ?_) (fun g5 => ?_)
          · exact absurd g5 (by rcases hv with q | q | q <;> rw [q] <;> decide)
          · refine R_if 3 (c := w ≤ 24) (t := 70) (f := 64) (L' := [some (.ref 3), some (.int (nI e)), some (.int v), some (.int w), some (.ref (52 + 2 * e + 3))]) (st' := []) (h' := mk M T) (fun _ => rfl) (fun g6 => ?_) (fun g6 => ?_)
            · exact absurd g6 (k2_nle hw)
            · refine R_go 2 (pc' := 66) (L' := [some (.ref 3), some (.int (nI e)), some (.int v), some (.int w), some (.ref (52 + 2 * e + 3))]) (st' := [.int 1, .ref 3]) (h' := mk M T) (fun _ => rfl) ?_
              refine R_callD (i := .invokevirtual 75) (kd := 0) (y := M_X7_error) (as := [.ref 3, .int 1]) (r := []) (L0 := [some (.ref 3), some (.int 1)]) (v := some (.int (-1000000001))) (h' := mk (up M 60 1 (M 60 1 + 1)) T) (pc' := 69) (st' := [.int (-1000000001)]) rfl rfl rfl rfl rfl rfl (c_error_1) ?_
              refine R_ret 1 (pcr := 69) (v := some (.int (-1000000001))) (h' := mk (up M 60 1 (M 60 1 + 1)) T) (fun _ => rfl) ?_
              exact ⟨rfl, rfl⟩
        · exact absurd (Int32.le_of_lt (Int32.lt_trans (by decide) hw)) g4
    · refine R_if 3 (c := v = 16) (t := 40) (f := 28) (L' := [some (.ref 3), some (.int (nI e)), some (.int v), some (.int w), some (.ref (52 + 2 * e + 3))]) (st' := []) (h' := mk M T) (fun _ => rfl) (fun g7 => ?_) (fun g7 => ?_)
      · refine R_if 2 (c := v = 0) (t := 54) (f := 44) (L' := [some (.ref 3), some (.int (nI e)), some (.int v), some (.int w), some (.ref (52 + 2 * e + 3))]) (st' := []) (h' := mk M T) (fun _ => rfl) (fun g8 => ?_) (fun g8 => ?_)
        · exact absurd g8 (by rcases hv with q | q | q <;> rw [q] <;> decide)
        · refine R_if 2 (c := 0 ≤ w) (t := 54) (f := 48) (L' := [some (.ref 3), some (.int (nI e)), some (.int v), some (.int w), some (.ref (52 + 2 * e + 3))]) (st' := []) (h' := mk M T) (fun _ => rfl) (fun g9 => ?_) (fun g9 => ?_)
          · refine R_if 2 (c := v = 0) (t := 70) (f := 58) (L' := [some (.ref 3), some (.int (nI e)), some (.int v), some (.int w), some (.ref (52 + 2 * e + 3))]) (st' := []) (h' := mk M T) (fun _ => rfl) (fun g10 => ?_) (fun g10 => ?_)
            · exact absurd g10 (by rcases hv with q | q | q <;> rw [q] <;> decide)
            · refine R_if 3 (c := w ≤ 24) (t := 70) (f := 64) (L' := [some (.ref 3), some (.int (nI e)), some (.int v), some (.int w), some (.ref (52 + 2 * e + 3))]) (st' := []) (h' := mk M T) (fun _ => rfl) (fun g11 => ?_) (fun g11 => ?_)
              · exact absurd g11 (k2_nle hw)
              · refine R_go 2 (pc' := 66) (L' := [some (.ref 3), some (.int (nI e)), some (.int v), some (.int w), some (.ref (52 + 2 * e + 3))]) (st' := [.int 1, .ref 3]) (h' := mk M T) (fun _ => rfl) ?_
                refine R_callD (i := .invokevirtual 75) (kd := 0) (y := M_X7_error) (as := [.ref 3, .int 1]) (r := []) (L0 := [some (.ref 3), some (.int 1)]) (v := some (.int (-1000000001))) (h' := mk (up M 60 1 (M 60 1 + 1)) T) (pc' := 69) (st' := [.int (-1000000001)]) rfl rfl rfl rfl rfl rfl (c_error_1) ?_
                refine R_ret 1 (pcr := 69) (v := some (.int (-1000000001))) (h' := mk (up M 60 1 (M 60 1 + 1)) T) (fun _ => rfl) ?_
                exact ⟨rfl, rfl⟩
          · exact absurd (Int32.le_of_lt (Int32.lt_trans (by decide) hw)) g9
      · refine R_if 3 (c := v = 32) (t := 40) (f := 34) (L' := [some (.ref 3), some (.int (nI e)), some (.int v), some (.int w), some (.ref (52 + 2 * e + 3))]) (st' := []) (h' := mk M T) (fun _ => rfl) (fun g12 => ?_) (fun g12 => ?_)
        · refine R_if 2 (c := v = 0) (t := 54) (f := 44) (L' := [some (.ref 3), some (.int (nI e)), some (.int v), some (.int w), some (.ref (52 + 2 * e + 3))]) (st' := []) (h' := mk M T) (fun _ => rfl) (fun g13 => ?_) (fun g13 => ?_)
          · exact absurd g13 (by rcases hv with q | q | q <;> rw [q] <;> decide)
          · refine R_if 2 (c := 0 ≤ w) (t := 54) (f := 48) (L' := [some (.ref 3), some (.int (nI e)), some (.int v), some (.int w), some (.ref (52 + 2 * e + 3))]) (st' := []) (h' := mk M T) (fun _ => rfl) (fun g14 => ?_) (fun g14 => ?_)
            · refine R_if 2 (c := v = 0) (t := 70) (f := 58) (L' := [some (.ref 3), some (.int (nI e)), some (.int v), some (.int w), some (.ref (52 + 2 * e + 3))]) (st' := []) (h' := mk M T) (fun _ => rfl) (fun g15 => ?_) (fun g15 => ?_)
              · exact absurd g15 (by rcases hv with q | q | q <;> rw [q] <;> decide)
              · refine R_if 3 (c := w ≤ 24) (t := 70) (f := 64) (L' := [some (.ref 3), some (.int (nI e)), some (.int v), some (.int w), some (.ref (52 + 2 * e + 3))]) (st' := []) (h' := mk M T) (fun _ => rfl) (fun g16 => ?_) (fun g16 => ?_)
                · exact absurd g16 (k2_nle hw)
                · refine R_go 2 (pc' := 66) (L' := [some (.ref 3), some (.int (nI e)), some (.int v), some (.int w), some (.ref (52 + 2 * e + 3))]) (st' := [.int 1, .ref 3]) (h' := mk M T) (fun _ => rfl) ?_
                  refine R_callD (i := .invokevirtual 75) (kd := 0) (y := M_X7_error) (as := [.ref 3, .int 1]) (r := []) (L0 := [some (.ref 3), some (.int 1)]) (v := some (.int (-1000000001))) (h' := mk (up M 60 1 (M 60 1 + 1)) T) (pc' := 69) (st' := [.int (-1000000001)]) rfl rfl rfl rfl rfl rfl (c_error_1) ?_
                  refine R_ret 1 (pcr := 69) (v := some (.int (-1000000001))) (h' := mk (up M 60 1 (M 60 1 + 1)) T) (fun _ => rfl) ?_
                  exact ⟨rfl, rfl⟩
            · exact absurd (Int32.le_of_lt (Int32.lt_trans (by decide) hw)) g14
        · refine R_go 2 (pc' := 36) (L' := [some (.ref 3), some (.int (nI e)), some (.int v), some (.int w), some (.ref (52 + 2 * e + 3))]) (st' := [.int 1, .ref 3]) (h' := mk M T) (fun _ => rfl) ?_
          refine R_callD (i := .invokevirtual 75) (kd := 0) (y := M_X7_error) (as := [.ref 3, .int 1]) (r := []) (L0 := [some (.ref 3), some (.int 1)]) (v := some (.int (-1000000001))) (h' := mk (up M 60 1 (M 60 1 + 1)) T) (pc' := 39) (st' := [.int (-1000000001)]) rfl rfl rfl rfl rfl rfl (c_error_1) ?_
          refine R_ret 1 (pcr := 39) (v := some (.int (-1000000001))) (h' := mk (up M 60 1 (M 60 1 + 1)) T) (fun _ => rfl) ?_
          exfalso; rcases hv with q | q | q <;> contradiction
set_option maxRecDepth 100000 in
set_option maxHeartbeats 4000000 in
theorem m_sheet_b {ro : xRO} {d : Nat} {M : xM} {T : Nat} {e : Nat} (he : e < 4) {v w : Int32} (hv : v = 8 ∨ v = 16 ∨ v = 32) (hw : 24 < w) : Rn ro (d + 90) M_X8_sheet 0 [some (.ref 64), some (.int (nI e)), some (.int v), some (.int w), none] [] (mk M T) (fun r h => r = some (.int (-1000000001)) ∧ h = mk (up M 64 1 (M 64 1 + 1)) T) := by
  refine R_go 1 (pc' := 1) (L' := [some (.ref 64), some (.int (nI e)), some (.int v), some (.int w), none]) (st' := [.int (nI e)]) (h' := mk M T) (fun _ => rfl) ?_
  refine R_call2 (i := .invokestatic 168) (kd := 1) (y := M_X8_isSheet) (as := [.int (nI e)]) (r := []) (L0 := [some (.int (nI e))]) (v1 := some (.int 1)) (v2 := some (.int 0)) (h1' := mk M T) (h2' := mk M T) (pc' := 4) (st1 := [.int 1]) (st2 := [.int 0]) rfl rfl rfl rfl rfl rfl (m_isSheet) (fun g1 => ?_) (fun g1 => ?_)
  · refine R_if 3 (c := v = 0) (t := 36) (f := 11) (L' := [some (.ref 64), some (.int (nI e)), some (.int v), some (.int w), none]) (st' := []) (h' := mk M T) (fun _ => rfl) (fun g2 => ?_) (fun g2 => ?_)
    · exact absurd g2 (by rcases hv with q | q | q <;> rw [q] <;> decide)
    · refine R_if 3 (c := v = 8) (t := 36) (f := 17) (L' := [some (.ref 64), some (.int (nI e)), some (.int v), some (.int w), none]) (st' := []) (h' := mk M T) (fun _ => rfl) (fun g3 => ?_) (fun g3 => ?_)
      · refine R_if 2 (c := v ≤ 0) (t := 51) (f := 40) (L' := [some (.ref 64), some (.int (nI e)), some (.int v), some (.int w), none]) (st' := []) (h' := mk M T) (fun _ => rfl) (fun g4 => ?_) (fun g4 => ?_)
        · exact absurd g4 (by rcases hv with q | q | q <;> rw [q] <;> decide)
        · refine R_if 2 (c := 0 ≤ w) (t := 51) (f := 44) (L' := [some (.ref 64), some (.int (nI e)), some (.int v), some (.int w), none]) (st' := []) (h' := mk M T) (fun _ => rfl) (fun g5 => ?_) (fun g5 => ?_)
          · refine R_if 2 (c := v ≤ 0) (t := 68) (f := 55) (L' := [some (.ref 64), some (.int (nI e)), some (.int v), some (.int w), none]) (st' := []) (h' := mk M T) (fun _ => rfl) (fun g6 => ?_) (fun g6 => ?_)
            · exact absurd g6 (by rcases hv with q | q | q <;> rw [q] <;> decide)
            · refine R_if 3 (c := w ≤ 24) (t := 68) (f := 61) (L' := [some (.ref 64), some (.int (nI e)), some (.int v), some (.int w), none]) (st' := []) (h' := mk M T) (fun _ => rfl) (fun g7 => ?_) (fun g7 => ?_)
              · exact absurd g7 (k2_nle hw)
              · refine R_go 2 (pc' := 64) (L' := [some (.ref 64), some (.int (nI e)), some (.int v), some (.int w), none]) (st' := [.int (-1000000001), .ref 64]) (h' := mk M T) (fun _ => rfl) ?_
                refine R_callD (i := .invokevirtual 81) (kd := 0) (y := M_X8_error) (as := [.ref 64, .int (-1000000001)]) (r := []) (L0 := [some (.ref 64), some (.int (-1000000001))]) (v := some (.int (-1000000001))) (h' := mk (up M 64 1 (M 64 1 + 1)) T) (pc' := 67) (st' := [.int (-1000000001)]) rfl rfl rfl rfl rfl rfl (m_error_1) ?_
                refine R_ret 1 (pcr := 67) (v := some (.int (-1000000001))) (h' := mk (up M 64 1 (M 64 1 + 1)) T) (fun _ => rfl) ?_
                exact ⟨rfl, rfl⟩
          · exact absurd (Int32.le_of_lt (Int32.lt_trans (by decide) hw)) g5
      · refine R_if 3 (c := v = 16) (t := 36) (f := 23) (L' := [some (.ref 64), some (.int (nI e)), some (.int v), some (.int w), none]) (st' := []) (h' := mk M T) (fun _ => rfl) (fun g8 => ?_) (fun g8 => ?_)
        · refine R_if 2 (c := v ≤ 0) (t := 51) (f := 40) (L' := [some (.ref 64), some (.int (nI e)), some (.int v), some (.int w), none]) (st' := []) (h' := mk M T) (fun _ => rfl) (fun g9 => ?_) (fun g9 => ?_)
          · exact absurd g9 (by rcases hv with q | q | q <;> rw [q] <;> decide)
          · refine R_if 2 (c := 0 ≤ w) (t := 51) (f := 44) (L' := [some (.ref 64), some (.int (nI e)), some (.int v), some (.int w), none]) (st' := []) (h' := mk M T) (fun _ => rfl) (fun g10 => ?_) (fun g10 => ?_)
            · refine R_if 2 (c := v ≤ 0) (t := 68) (f := 55) (L' := [some (.ref 64), some (.int (nI e)), some (.int v), some (.int w), none]) (st' := []) (h' := mk M T) (fun _ => rfl) (fun g11 => ?_) (fun g11 => ?_)
              · exact absurd g11 (by rcases hv with q | q | q <;> rw [q] <;> decide)
              · refine R_if 3 (c := w ≤ 24) (t := 68) (f := 61) (L' := [some (.ref 64), some (.int (nI e)), some (.int v), some (.int w), none]) (st' := []) (h' := mk M T) (fun _ => rfl) (fun g12 => ?_) (fun g12 => ?_)
                · exact absurd g12 (k2_nle hw)
                · refine R_go 2 (pc' := 64) (L' := [some (.ref 64), some (.int (nI e)), some (.int v), some (.int w), none]) (st' := [.int (-1000000001), .ref 64]) (h' := mk M T) (fun _ => rfl) ?_
                  refine R_callD (i := .invokevirtual 81) (kd := 0) (y := M_X8_error) (as := [.ref 64, .int (-1000000001)]) (r := []) (L0 := [some (.ref 64), some (.int (-1000000001))]) (v := some (.int (-1000000001))) (h' := mk (up M 64 1 (M 64 1 + 1)) T) (pc' := 67) (st' := [.int (-1000000001)]) rfl rfl rfl rfl rfl rfl (m_error_1) ?_
                  refine R_ret 1 (pcr := 67) (v := some (.int (-1000000001))) (h' := mk (up M 64 1 (M 64 1 + 1)) T) (fun _ => rfl) ?_
                  exact ⟨rfl, rfl⟩
            · exact absurd (Int32.le_of_lt (Int32.lt_trans (by decide) hw)) g10
        · refine R_if 3 (c := v = 32) (t := 36) (f := 29) (L' := [some (.ref 64), some (.int (nI e)), some (.int v), some (.int w), none]) (st' := []) (h' := mk M T) (fun _ => rfl) (fun g13 => ?_) (fun g13 => ?_)
          · refine R_if 2 (c := v ≤ 0) (t := 51) (f := 40) (L' := [some (.ref 64), some (.int (nI e)), some (.int v), some (.int w), none]) (st' := []) (h' := mk M T) (fun _ => rfl) (fun g14 => ?_) (fun g14 => ?_)
            · exact absurd g14 (by rcases hv with q | q | q <;> rw [q] <;> decide)
            · refine R_if 2 (c := 0 ≤ w) (t := 51) (f := 44) (L' := [some (.ref 64), some (.int (nI e)), some (.int v), some (.int w), none]) (st' := []) (h' := mk M T) (fun _ => rfl) (fun g15 => ?_) (fun g15 => ?_)
              · refine R_if 2 (c := v ≤ 0) (t := 68) (f := 55) (L' := [some (.ref 64), some (.int (nI e)), some (.int v), some (.int w), none]) (st' := []) (h' := mk M T) (fun _ => rfl) (fun g16 => ?_) (fun g16 => ?_)
                · exact absurd g16 (by rcases hv with q | q | q <;> rw [q] <;> decide)
                · refine R_if 3 (c := w ≤ 24) (t := 68) (f := 61) (L' := [some (.ref 64), some (.int (nI e)), some (.int v), some (.int w), none]) (st' := []) (h' := mk M T) (fun _ => rfl) (fun g17 => ?_) (fun g17 => ?_)
                  · exact absurd g17 (k2_nle hw)
                  · refine R_go 2 (pc' := 64) (L' := [some (.ref 64), some (.int (nI e)), some (.int v), some (.int w), none]) (st' := [.int (-1000000001), .ref 64]) (h' := mk M T) (fun _ => rfl) ?_
                    refine R_callD (i := .invokevirtual 81) (kd := 0) (y := M_X8_error) (as := [.ref 64, .int (-1000000001)]) (r := []) (L0 := [some (.ref 64), some (.int (-1000000001))]) (v := some (.int (-1000000001))) (h' := mk (up M 64 1 (M 64 1 + 1)) T) (pc' := 67) (st' := [.int (-1000000001)]) rfl rfl rfl rfl rfl rfl (m_error_1) ?_
                    refine R_ret 1 (pcr := 67) (v := some (.int (-1000000001))) (h' := mk (up M 64 1 (M 64 1 + 1)) T) (fun _ => rfl) ?_
                    exact ⟨rfl, rfl⟩
              · exact absurd (Int32.le_of_lt (Int32.lt_trans (by decide) hw)) g15
          · refine R_go 2 (pc' := 32) (L' := [some (.ref 64), some (.int (nI e)), some (.int v), some (.int w), none]) (st' := [.int (-1000000001), .ref 64]) (h' := mk M T) (fun _ => rfl) ?_
            refine R_callD (i := .invokevirtual 81) (kd := 0) (y := M_X8_error) (as := [.ref 64, .int (-1000000001)]) (r := []) (L0 := [some (.ref 64), some (.int (-1000000001))]) (v := some (.int (-1000000001))) (h' := mk (up M 64 1 (M 64 1 + 1)) T) (pc' := 35) (st' := [.int (-1000000001)]) rfl rfl rfl rfl rfl rfl (m_error_1) ?_
            refine R_ret 1 (pcr := 35) (v := some (.int (-1000000001))) (h' := mk (up M 64 1 (M 64 1 + 1)) T) (fun _ => rfl) ?_
            exfalso; rcases hv with q | q | q <;> contradiction
  · exact absurd (nI_in2 (a := 0) (b := 3) (by omega) (by omega) (by omega)) g1
set_option maxRecDepth 100000 in
set_option maxHeartbeats 4000000 in
theorem x_sheet_i {ro : xRO} {d : Nat} {M : xM} {T : Nat} {e : Nat} (he : e < 4) {v : Int32} {z : Nat} (hv : v = 8 ∨ v = 16 ∨ v = 32) (z24 : z ≤ 24) : Rn ro (d + 90) M_X7_sheet 0 [some (.ref 3), some (.int (nI e)), some (.int v), some (.int (nI z)), none] [] (mk M T) (fun r h => r = some (.int 1) ∧ h = mk (zX (up (up M (52 + 2 * e) 1 v) (52 + 2 * e) 2 (nI z)) (53 + 2 * e) 24) T) := by
  refine R_go 2 (pc' := 2) (L' := [some (.ref 3), some (.int (nI e)), some (.int v), some (.int (nI z)), none]) (st' := [.int (nI e), .ref 3]) (h' := mk M T) (fun _ => rfl) ?_
  refine R_callD (i := .invokevirtual 180) (kd := 0) (y := M_X7_sheetAt) (as := [.ref 3, .int (nI e)]) (r := []) (L0 := [some (.ref 3), some (.int (nI e))]) (v := some (.ref (52 + 2 * e + 3))) (h' := mk M T) (pc' := 5) (st' := [.ref (52 + 2 * e + 3)]) rfl rfl rfl rfl rfl rfl (c_sheetAt_in (n := e) (by omega)) ?_
  refine R_if 5 (c := v = 0) (t := 40) (f := 16) (L' := [some (.ref 3), some (.int (nI e)), some (.int v), some (.int (nI z)), some (.ref (52 + 2 * e + 3))]) (st' := []) (h' := mk M T) (fun _ => rfl) (fun g1 => ?_) (fun g1 => ?_)
  · exact absurd g1 (by rcases hv with q | q | q <;> rw [q] <;> decide)
  · refine R_if 3 (c := v = 8) (t := 40) (f := 22) (L' := [some (.ref 3), some (.int (nI e)), some (.int v), some (.int (nI z)), some (.ref (52 + 2 * e + 3))]) (st' := []) (h' := mk M T) (fun _ => rfl) (fun g2 => ?_) (fun g2 => ?_)
    · refine R_if 2 (c := v = 0) (t := 54) (f := 44) (L' := [some (.ref 3), some (.int (nI e)), some (.int v), some (.int (nI z)), some (.ref (52 + 2 * e + 3))]) (st' := []) (h' := mk M T) (fun _ => rfl) (fun g3 => ?_) (fun g3 => ?_)
      · exact absurd g3 (by rcases hv with q | q | q <;> rw [q] <;> decide)
      · refine R_if 2 (c := 0 ≤ (nI z)) (t := 54) (f := 48) (L' := [some (.ref 3), some (.int (nI e)), some (.int v), some (.int (nI z)), some (.ref (52 + 2 * e + 3))]) (st' := []) (h' := mk M T) (fun _ => rfl) (fun g4 => ?_) (fun g4 => ?_)
        · replace g4 : 0 ≤ z := (nI_leI (a := 0) (b := z) (by omega) (by omega)).mp g4
          refine R_if 2 (c := v = 0) (t := 70) (f := 58) (L' := [some (.ref 3), some (.int (nI e)), some (.int v), some (.int (nI z)), some (.ref (52 + 2 * e + 3))]) (st' := []) (h' := mk M T) (fun _ => rfl) (fun g5 => ?_) (fun g5 => ?_)
          · exact absurd g5 (by rcases hv with q | q | q <;> rw [q] <;> decide)
          · refine R_if 3 (c := (nI z) ≤ 24) (t := 70) (f := 64) (L' := [some (.ref 3), some (.int (nI e)), some (.int v), some (.int (nI z)), some (.ref (52 + 2 * e + 3))]) (st' := []) (h' := mk M T) (fun _ => rfl) (fun g6 => ?_) (fun g6 => ?_)
            · replace g6 : z ≤ 24 := (nI_leI (a := z) (b := 24) (by omega) (by omega)).mp g6
              refine R_go 2 (pc' := 73) (L' := [some (.ref 3), some (.int (nI e)), some (.int v), some (.int (nI z)), some (.ref (52 + 2 * e + 3))]) (st' := [.int v, .ref (52 + 2 * e + 3)]) (h' := mk M T) (fun _ => rfl) ?_
              refine R_putI (i := 237) (j := 1) (c := 52 + 2 * e) (sh_sheet (by omega)) rfl rfl rfl ?_
              refine R_ifn 3 (c := v = 0) (t := 86) (f := 82) (L' := [some (.ref 3), some (.int (nI e)), some (.int v), some (.int (nI z)), some (.ref (52 + 2 * e + 3))]) (st' := [.ref (52 + 2 * e + 3)]) (h' := mk (up M (52 + 2 * e) 1 v) T) (fun _ => rfl) (fun g7 => ?_) (fun g7 => ?_)
              · refine R_go 1 (pc' := 87) (L' := [some (.ref 3), some (.int (nI e)), some (.int v), some (.int (nI z)), some (.ref (52 + 2 * e + 3))]) (st' := [.int (nI z), .ref (52 + 2 * e + 3)]) (h' := mk (up M (52 + 2 * e) 1 v) T) (fun _ => rfl) ?_
                refine R_putI (i := 244) (j := 2) (c := 52 + 2 * e) (sh_sheet (by omega)) rfl rfl rfl ?_
                refine R_go 1 (pc' := 92) (L' := [some (.ref 3), some (.int (nI e)), some (.int v), some (.int (nI z)), some (.ref (52 + 2 * e + 3))]) (st' := [.ref (52 + 2 * e + 3)]) (h' := mk (up (up M (52 + 2 * e) 1 v) (52 + 2 * e) 2 (nI z)) T) (fun _ => rfl) ?_
                refine R_getR (i := 259) (j := 0) (c := 52 + 2 * e) (sh_sheet (by omega)) rfl rfl rfl ?_
                refine R_go 1 (pc' := 96) (L' := [some (.ref 3), some (.int (nI e)), some (.int v), some (.int (nI z)), some (.ref (52 + 2 * e + 3))]) (st' := [.int 0, .ref (53 + 2 * e + 3)]) (h' := mk (up (up M (52 + 2 * e) 1 v) (52 + 2 * e) 2 (nI z)) T) (fun _ => rfl) ?_
                refine R_callD (i := .invokestatic 262) (kd := 1) (y := M_J7_fill_53178) (as := [.ref (53 + 2 * e + 3), .int 0]) (r := []) (L0 := [some (.ref (53 + 2 * e + 3)), some (.int 0), none, none]) (v := none) (h' := mk (zX (up (up M (52 + 2 * e) 1 v) (52 + 2 * e) 2 (nI z)) (53 + 2 * e) 24) T) (pc' := 99) (st' := []) rfl rfl rfl rfl rfl rfl (c_fill (c := 53 + 2 * e) (m := 24) (sh_nums (by omega)) (by omega)) ?_
                refine R_ret 2 (pcr := 100) (v := some (.int 1)) (h' := mk (zX (up (up M (52 + 2 * e) 1 v) (52 + 2 * e) 2 (nI z)) (53 + 2 * e) 24) T) (fun _ => rfl) ?_
                exact ⟨rfl, rfl⟩
              · exact absurd g7 (by rcases hv with q | q | q <;> rw [q] <;> decide)
            · replace g6 : ¬ z ≤ 24 := fun q => g6 ((nI_leI (a := z) (b := 24) (by omega) (by omega)).mpr q)
              omega
        · replace g4 : ¬ 0 ≤ z := fun q => g4 ((nI_leI (a := 0) (b := z) (by omega) (by omega)).mpr q)
          omega
    · refine R_if 3 (c := v = 16) (t := 40) (f := 28) (L' := [some (.ref 3), some (.int (nI e)), some (.int v), some (.int (nI z)), some (.ref (52 + 2 * e + 3))]) (st' := []) (h' := mk M T) (fun _ => rfl) (fun g8 => ?_) (fun g8 => ?_)
      · refine R_if 2 (c := v = 0) (t := 54) (f := 44) (L' := [some (.ref 3), some (.int (nI e)), some (.int v), some (.int (nI z)), some (.ref (52 + 2 * e + 3))]) (st' := []) (h' := mk M T) (fun _ => rfl) (fun g9 => ?_) (fun g9 => ?_)
        · exact absurd g9 (by rcases hv with q | q | q <;> rw [q] <;> decide)
        · refine R_if 2 (c := 0 ≤ (nI z)) (t := 54) (f := 48) (L' := [some (.ref 3), some (.int (nI e)), some (.int v), some (.int (nI z)), some (.ref (52 + 2 * e + 3))]) (st' := []) (h' := mk M T) (fun _ => rfl) (fun g10 => ?_) (fun g10 => ?_)
          · replace g10 : 0 ≤ z := (nI_leI (a := 0) (b := z) (by omega) (by omega)).mp g10
            refine R_if 2 (c := v = 0) (t := 70) (f := 58) (L' := [some (.ref 3), some (.int (nI e)), some (.int v), some (.int (nI z)), some (.ref (52 + 2 * e + 3))]) (st' := []) (h' := mk M T) (fun _ => rfl) (fun g11 => ?_) (fun g11 => ?_)
            · exact absurd g11 (by rcases hv with q | q | q <;> rw [q] <;> decide)
            · refine R_if 3 (c := (nI z) ≤ 24) (t := 70) (f := 64) (L' := [some (.ref 3), some (.int (nI e)), some (.int v), some (.int (nI z)), some (.ref (52 + 2 * e + 3))]) (st' := []) (h' := mk M T) (fun _ => rfl) (fun g12 => ?_) (fun g12 => ?_)
              · replace g12 : z ≤ 24 := (nI_leI (a := z) (b := 24) (by omega) (by omega)).mp g12
                refine R_go 2 (pc' := 73) (L' := [some (.ref 3), some (.int (nI e)), some (.int v), some (.int (nI z)), some (.ref (52 + 2 * e + 3))]) (st' := [.int v, .ref (52 + 2 * e + 3)]) (h' := mk M T) (fun _ => rfl) ?_
                refine R_putI (i := 237) (j := 1) (c := 52 + 2 * e) (sh_sheet (by omega)) rfl rfl rfl ?_
                refine R_ifn 3 (c := v = 0) (t := 86) (f := 82) (L' := [some (.ref 3), some (.int (nI e)), some (.int v), some (.int (nI z)), some (.ref (52 + 2 * e + 3))]) (st' := [.ref (52 + 2 * e + 3)]) (h' := mk (up M (52 + 2 * e) 1 v) T) (fun _ => rfl) (fun g13 => ?_) (fun g13 => ?_)
                · refine R_go 1 (pc' := 87) (L' := [some (.ref 3), some (.int (nI e)), some (.int v), some (.int (nI z)), some (.ref (52 + 2 * e + 3))]) (st' := [.int (nI z), .ref (52 + 2 * e + 3)]) (h' := mk (up M (52 + 2 * e) 1 v) T) (fun _ => rfl) ?_
                  refine R_putI (i := 244) (j := 2) (c := 52 + 2 * e) (sh_sheet (by omega)) rfl rfl rfl ?_
                  refine R_go 1 (pc' := 92) (L' := [some (.ref 3), some (.int (nI e)), some (.int v), some (.int (nI z)), some (.ref (52 + 2 * e + 3))]) (st' := [.ref (52 + 2 * e + 3)]) (h' := mk (up (up M (52 + 2 * e) 1 v) (52 + 2 * e) 2 (nI z)) T) (fun _ => rfl) ?_
                  refine R_getR (i := 259) (j := 0) (c := 52 + 2 * e) (sh_sheet (by omega)) rfl rfl rfl ?_
                  refine R_go 1 (pc' := 96) (L' := [some (.ref 3), some (.int (nI e)), some (.int v), some (.int (nI z)), some (.ref (52 + 2 * e + 3))]) (st' := [.int 0, .ref (53 + 2 * e + 3)]) (h' := mk (up (up M (52 + 2 * e) 1 v) (52 + 2 * e) 2 (nI z)) T) (fun _ => rfl) ?_
                  refine R_callD (i := .invokestatic 262) (kd := 1) (y := M_J7_fill_53178) (as := [.ref (53 + 2 * e + 3), .int 0]) (r := []) (L0 := [some (.ref (53 + 2 * e + 3)), some (.int 0), none, none]) (v := none) (h' := mk (zX (up (up M (52 + 2 * e) 1 v) (52 + 2 * e) 2 (nI z)) (53 + 2 * e) 24) T) (pc' := 99) (st' := []) rfl rfl rfl rfl rfl rfl (c_fill (c := 53 + 2 * e) (m := 24) (sh_nums (by omega)) (by omega)) ?_
                  refine R_ret 2 (pcr := 100) (v := some (.int 1)) (h' := mk (zX (up (up M (52 + 2 * e) 1 v) (52 + 2 * e) 2 (nI z)) (53 + 2 * e) 24) T) (fun _ => rfl) ?_
                  exact ⟨rfl, rfl⟩
                · exact absurd g13 (by rcases hv with q | q | q <;> rw [q] <;> decide)
              · replace g12 : ¬ z ≤ 24 := fun q => g12 ((nI_leI (a := z) (b := 24) (by omega) (by omega)).mpr q)
                omega
          · replace g10 : ¬ 0 ≤ z := fun q => g10 ((nI_leI (a := 0) (b := z) (by omega) (by omega)).mpr q)
            omega
      · refine R_if 3 (c := v = 32) (t := 40) (f := 34) (L' := [some (.ref 3), some (.int (nI e)), some (.int v), some (.int (nI z)), some (.ref (52 + 2 * e + 3))]) (st' := []) (h' := mk M T) (fun _ => rfl) (fun g14 => ?_) (fun g14 => ?_)
        · refine R_if 2 (c := v = 0) (t := 54) (f := 44) (L' := [some (.ref 3), some (.int (nI e)), some (.int v), some (.int (nI z)), some (.ref (52 + 2 * e + 3))]) (st' := []) (h' := mk M T) (fun _ => rfl) (fun g15 => ?_) (fun g15 => ?_)
          · exact absurd g15 (by rcases hv with q | q | q <;> rw [q] <;> decide)
          · refine R_if 2 (c := 0 ≤ (nI z)) (t := 54) (f := 48) (L' := [some (.ref 3), some (.int (nI e)), some (.int v), some (.int (nI z)), some (.ref (52 + 2 * e + 3))]) (st' := []) (h' := mk M T) (fun _ => rfl) (fun g16 => ?_) (fun g16 => ?_)
            · replace g16 : 0 ≤ z := (nI_leI (a := 0) (b := z) (by omega) (by omega)).mp g16
              refine R_if 2 (c := v = 0) (t := 70) (f := 58) (L' := [some (.ref 3), some (.int (nI e)), some (.int v), some (.int (nI z)), some (.ref (52 + 2 * e + 3))]) (st' := []) (h' := mk M T) (fun _ => rfl) (fun g17 => ?_) (fun g17 => ?_)
              · exact absurd g17 (by rcases hv with q | q | q <;> rw [q] <;> decide)
              · refine R_if 3 (c := (nI z) ≤ 24) (t := 70) (f := 64) (L' := [some (.ref 3), some (.int (nI e)), some (.int v), some (.int (nI z)), some (.ref (52 + 2 * e + 3))]) (st' := []) (h' := mk M T) (fun _ => rfl) (fun g18 => ?_) (fun g18 => ?_)
                · replace g18 : z ≤ 24 := (nI_leI (a := z) (b := 24) (by omega) (by omega)).mp g18
                  refine R_go 2 (pc' := 73) (L' := [some (.ref 3), some (.int (nI e)), some (.int v), some (.int (nI z)), some (.ref (52 + 2 * e + 3))]) (st' := [.int v, .ref (52 + 2 * e + 3)]) (h' := mk M T) (fun _ => rfl) ?_
                  refine R_putI (i := 237) (j := 1) (c := 52 + 2 * e) (sh_sheet (by omega)) rfl rfl rfl ?_
                  refine R_ifn 3 (c := v = 0) (t := 86) (f := 82) (L' := [some (.ref 3), some (.int (nI e)), some (.int v), some (.int (nI z)), some (.ref (52 + 2 * e + 3))]) (st' := [.ref (52 + 2 * e + 3)]) (h' := mk (up M (52 + 2 * e) 1 v) T) (fun _ => rfl) (fun g19 => ?_) (fun g19 => ?_)
                  · refine R_go 1 (pc' := 87) (L' := [some (.ref 3), some (.int (nI e)), some (.int v), some (.int (nI z)), some (.ref (52 + 2 * e + 3))]) (st' := [.int (nI z), .ref (52 + 2 * e + 3)]) (h' := mk (up M (52 + 2 * e) 1 v) T) (fun _ => rfl) ?_
                    refine R_putI (i := 244) (j := 2) (c := 52 + 2 * e) (sh_sheet (by omega)) rfl rfl rfl ?_
                    refine R_go 1 (pc' := 92) (L' := [some (.ref 3), some (.int (nI e)), some (.int v), some (.int (nI z)), some (.ref (52 + 2 * e + 3))]) (st' := [.ref (52 + 2 * e + 3)]) (h' := mk (up (up M (52 + 2 * e) 1 v) (52 + 2 * e) 2 (nI z)) T) (fun _ => rfl) ?_
                    refine R_getR (i := 259) (j := 0) (c := 52 + 2 * e) (sh_sheet (by omega)) rfl rfl rfl ?_
                    refine R_go 1 (pc' := 96) (L' := [some (.ref 3), some (.int (nI e)), some (.int v), some (.int (nI z)), some (.ref (52 + 2 * e + 3))]) (st' := [.int 0, .ref (53 + 2 * e + 3)]) (h' := mk (up (up M (52 + 2 * e) 1 v) (52 + 2 * e) 2 (nI z)) T) (fun _ => rfl) ?_
                    refine R_callD (i := .invokestatic 262) (kd := 1) (y := M_J7_fill_53178) (as := [.ref (53 + 2 * e + 3), .int 0]) (r := []) (L0 := [some (.ref (53 + 2 * e + 3)), some (.int 0), none, none]) (v := none) (h' := mk (zX (up (up M (52 + 2 * e) 1 v) (52 + 2 * e) 2 (nI z)) (53 + 2 * e) 24) T) (pc' := 99) (st' := []) rfl rfl rfl rfl rfl rfl (c_fill (c := 53 + 2 * e) (m := 24) (sh_nums (by omega)) (by omega)) ?_
                    refine R_ret 2 (pcr := 100) (v := some (.int 1)) (h' := mk (zX (up (up M (52 + 2 * e) 1 v) (52 + 2 * e) 2 (nI z)) (53 + 2 * e) 24) T) (fun _ => rfl) ?_
                    exact ⟨rfl, rfl⟩
                  · exact absurd g19 (by rcases hv with q | q | q <;> rw [q] <;> decide)
                · replace g18 : ¬ z ≤ 24 := fun q => g18 ((nI_leI (a := z) (b := 24) (by omega) (by omega)).mpr q)
                  omega
            · replace g16 : ¬ 0 ≤ z := fun q => g16 ((nI_leI (a := 0) (b := z) (by omega) (by omega)).mpr q)
              omega
        · refine R_go 2 (pc' := 36) (L' := [some (.ref 3), some (.int (nI e)), some (.int v), some (.int (nI z)), some (.ref (52 + 2 * e + 3))]) (st' := [.int 1, .ref 3]) (h' := mk M T) (fun _ => rfl) ?_
          refine R_callD (i := .invokevirtual 75) (kd := 0) (y := M_X7_error) (as := [.ref 3, .int 1]) (r := []) (L0 := [some (.ref 3), some (.int 1)]) (v := some (.int (-1000000001))) (h' := mk (up M 60 1 (M 60 1 + 1)) T) (pc' := 39) (st' := [.int (-1000000001)]) rfl rfl rfl rfl rfl rfl (c_error_1) ?_
          refine R_ret 1 (pcr := 39) (v := some (.int (-1000000001))) (h' := mk (up M 60 1 (M 60 1 + 1)) T) (fun _ => rfl) ?_
          exfalso; rcases hv with q | q | q <;> contradiction
set_option maxRecDepth 100000 in
set_option maxHeartbeats 4000000 in
theorem m_sheet_i {ro : xRO} {d : Nat} {M : xM} {T : Nat} {e : Nat} (he : e < 4) {v : Int32} {z : Nat} (hv : v = 8 ∨ v = 16 ∨ v = 32) (z24 : z ≤ 24) : Rn ro (d + 90) M_X8_sheet 0 [some (.ref 64), some (.int (nI e)), some (.int v), some (.int (nI z)), none] [] (mk M T) (fun r h => r = some (.int 1) ∧ h = mk (zM (up (up M 65 e v) 66 e (nI z)) e 24) T) := by
  refine R_go 1 (pc' := 1) (L' := [some (.ref 64), some (.int (nI e)), some (.int v), some (.int (nI z)), none]) (st' := [.int (nI e)]) (h' := mk M T) (fun _ => rfl) ?_
  refine R_call2 (i := .invokestatic 168) (kd := 1) (y := M_X8_isSheet) (as := [.int (nI e)]) (r := []) (L0 := [some (.int (nI e))]) (v1 := some (.int 1)) (v2 := some (.int 0)) (h1' := mk M T) (h2' := mk M T) (pc' := 4) (st1 := [.int 1]) (st2 := [.int 0]) rfl rfl rfl rfl rfl rfl (m_isSheet) (fun g1 => ?_) (fun g1 => ?_)
  · refine R_if 3 (c := v = 0) (t := 36) (f := 11) (L' := [some (.ref 64), some (.int (nI e)), some (.int v), some (.int (nI z)), none]) (st' := []) (h' := mk M T) (fun _ => rfl) (fun g2 => ?_) (fun g2 => ?_)
    · exact absurd g2 (by rcases hv with q | q | q <;> rw [q] <;> decide)
    · refine R_if 3 (c := v = 8) (t := 36) (f := 17) (L' := [some (.ref 64), some (.int (nI e)), some (.int v), some (.int (nI z)), none]) (st' := []) (h' := mk M T) (fun _ => rfl) (fun g3 => ?_) (fun g3 => ?_)
      · refine R_if 2 (c := v ≤ 0) (t := 51) (f := 40) (L' := [some (.ref 64), some (.int (nI e)), some (.int v), some (.int (nI z)), none]) (st' := []) (h' := mk M T) (fun _ => rfl) (fun g4 => ?_) (fun g4 => ?_)
        · exact absurd g4 (by rcases hv with q | q | q <;> rw [q] <;> decide)
        · refine R_if 2 (c := 0 ≤ (nI z)) (t := 51) (f := 44) (L' := [some (.ref 64), some (.int (nI e)), some (.int v), some (.int (nI z)), none]) (st' := []) (h' := mk M T) (fun _ => rfl) (fun g5 => ?_) (fun g5 => ?_)
          · replace g5 : 0 ≤ z := (nI_leI (a := 0) (b := z) (by omega) (by omega)).mp g5
            refine R_if 2 (c := v ≤ 0) (t := 68) (f := 55) (L' := [some (.ref 64), some (.int (nI e)), some (.int v), some (.int (nI z)), none]) (st' := []) (h' := mk M T) (fun _ => rfl) (fun g6 => ?_) (fun g6 => ?_)
            · exact absurd g6 (by rcases hv with q | q | q <;> rw [q] <;> decide)
            · refine R_if 3 (c := (nI z) ≤ 24) (t := 68) (f := 61) (L' := [some (.ref 64), some (.int (nI e)), some (.int v), some (.int (nI z)), none]) (st' := []) (h' := mk M T) (fun _ => rfl) (fun g7 => ?_) (fun g7 => ?_)
              · replace g7 : z ≤ 24 := (nI_leI (a := z) (b := 24) (by omega) (by omega)).mp g7
                refine R_go 4 (pc' := 74) (L' := [some (.ref 64), some (.int (nI e)), some (.int v), some (.int (nI z)), none]) (st' := [.int v, .int (nI e), .ref 68]) (h' := mk M T) (fun _ => rfl) ?_
                refine R_iast (c := 65) (n := 4) (j := e) rfl rfl (by omega) (by decide) ?_
                refine R_ifn 5 (c := v = 0) (t := 88) (f := 84) (L' := [some (.ref 64), some (.int (nI e)), some (.int v), some (.int (nI z)), none]) (st' := [.int (nI e), .ref 69]) (h' := mk (up M 65 e v) T) (fun _ => rfl) (fun g8 => ?_) (fun g8 => ?_)
                · refine R_go 1 (pc' := 89) (L' := [some (.ref 64), some (.int (nI e)), some (.int v), some (.int (nI z)), none]) (st' := [.int (nI z), .int (nI e), .ref 69]) (h' := mk (up M 65 e v) T) (fun _ => rfl) ?_
                  refine R_iast (c := 66) (n := 4) (j := e) rfl rfl (by omega) (by decide) ?_
                  refine R_go 2 (pc' := 93) (L' := [some (.ref 64), some (.int (nI e)), some (.int v), some (.int (nI z)), some (.int 0)]) (st' := []) (h' := mk (up (up M 65 e v) 66 e (nI z)) T) (fun _ => rfl) ?_
                  refine lp_zero he (v := v) (w := nI z) 24 0 rfl ?_
                  refine R_ret 2 (pcr := 120) (v := some (.int 1)) (h' := mk (zM (up (up M 65 e v) 66 e (nI z)) e 24) T) (fun _ => rfl) ?_
                  exact ⟨rfl, rfl⟩
                · exact absurd g8 (by rcases hv with q | q | q <;> rw [q] <;> decide)
              · replace g7 : ¬ z ≤ 24 := fun q => g7 ((nI_leI (a := z) (b := 24) (by omega) (by omega)).mpr q)
                omega
          · replace g5 : ¬ 0 ≤ z := fun q => g5 ((nI_leI (a := 0) (b := z) (by omega) (by omega)).mpr q)
            omega
      · refine R_if 3 (c := v = 16) (t := 36) (f := 23) (L' := [some (.ref 64), some (.int (nI e)), some (.int v), some (.int (nI z)), none]) (st' := []) (h' := mk M T) (fun _ => rfl) (fun g9 => ?_) (fun g9 => ?_)
        · refine R_if 2 (c := v ≤ 0) (t := 51) (f := 40) (L' := [some (.ref 64), some (.int (nI e)), some (.int v), some (.int (nI z)), none]) (st' := []) (h' := mk M T) (fun _ => rfl) (fun g10 => ?_) (fun g10 => ?_)
          · exact absurd g10 (by rcases hv with q | q | q <;> rw [q] <;> decide)
          · refine R_if 2 (c := 0 ≤ (nI z)) (t := 51) (f := 44) (L' := [some (.ref 64), some (.int (nI e)), some (.int v), some (.int (nI z)), none]) (st' := []) (h' := mk M T) (fun _ => rfl) (fun g11 => ?_) (fun g11 => ?_)
            · replace g11 : 0 ≤ z := (nI_leI (a := 0) (b := z) (by omega) (by omega)).mp g11
              refine R_if 2 (c := v ≤ 0) (t := 68) (f := 55) (L' := [some (.ref 64), some (.int (nI e)), some (.int v), some (.int (nI z)), none]) (st' := []) (h' := mk M T) (fun _ => rfl) (fun g12 => ?_) (fun g12 => ?_)
              · exact absurd g12 (by rcases hv with q | q | q <;> rw [q] <;> decide)
              · refine R_if 3 (c := (nI z) ≤ 24) (t := 68) (f := 61) (L' := [some (.ref 64), some (.int (nI e)), some (.int v), some (.int (nI z)), none]) (st' := []) (h' := mk M T) (fun _ => rfl) (fun g13 => ?_) (fun g13 => ?_)
                · replace g13 : z ≤ 24 := (nI_leI (a := z) (b := 24) (by omega) (by omega)).mp g13
                  refine R_go 4 (pc' := 74) (L' := [some (.ref 64), some (.int (nI e)), some (.int v), some (.int (nI z)), none]) (st' := [.int v, .int (nI e), .ref 68]) (h' := mk M T) (fun _ => rfl) ?_
                  refine R_iast (c := 65) (n := 4) (j := e) rfl rfl (by omega) (by decide) ?_
                  refine R_ifn 5 (c := v = 0) (t := 88) (f := 84) (L' := [some (.ref 64), some (.int (nI e)), some (.int v), some (.int (nI z)), none]) (st' := [.int (nI e), .ref 69]) (h' := mk (up M 65 e v) T) (fun _ => rfl) (fun g14 => ?_) (fun g14 => ?_)
                  · refine R_go 1 (pc' := 89) (L' := [some (.ref 64), some (.int (nI e)), some (.int v), some (.int (nI z)), none]) (st' := [.int (nI z), .int (nI e), .ref 69]) (h' := mk (up M 65 e v) T) (fun _ => rfl) ?_
                    refine R_iast (c := 66) (n := 4) (j := e) rfl rfl (by omega) (by decide) ?_
                    refine R_go 2 (pc' := 93) (L' := [some (.ref 64), some (.int (nI e)), some (.int v), some (.int (nI z)), some (.int 0)]) (st' := []) (h' := mk (up (up M 65 e v) 66 e (nI z)) T) (fun _ => rfl) ?_
                    refine lp_zero he (v := v) (w := nI z) 24 0 rfl ?_
                    refine R_ret 2 (pcr := 120) (v := some (.int 1)) (h' := mk (zM (up (up M 65 e v) 66 e (nI z)) e 24) T) (fun _ => rfl) ?_
                    exact ⟨rfl, rfl⟩
                  · exact absurd g14 (by rcases hv with q | q | q <;> rw [q] <;> decide)
                · replace g13 : ¬ z ≤ 24 := fun q => g13 ((nI_leI (a := z) (b := 24) (by omega) (by omega)).mpr q)
                  omega
            · replace g11 : ¬ 0 ≤ z := fun q => g11 ((nI_leI (a := 0) (b := z) (by omega) (by omega)).mpr q)
              omega
        · refine R_if 3 (c := v = 32) (t := 36) (f := 29) (L' := [some (.ref 64), some (.int (nI e)), some (.int v), some (.int (nI z)), none]) (st' := []) (h' := mk M T) (fun _ => rfl) (fun g15 => ?_) (fun g15 => ?_)
          · refine R_if 2 (c := v ≤ 0) (t := 51) (f := 40) (L' := [some (.ref 64), some (.int (nI e)), some (.int v), some (.int (nI z)), none]) (st' := []) (h' := mk M T) (fun _ => rfl) (fun g16 => ?_) (fun g16 => ?_)
            · exact absurd g16 (by rcases hv with q | q | q <;> rw [q] <;> decide)
            · refine R_if 2 (c := 0 ≤ (nI z)) (t := 51) (f := 44) (L' := [some (.ref 64), some (.int (nI e)), some (.int v), some (.int (nI z)), none]) (st' := []) (h' := mk M T) (fun _ => rfl) (fun g17 => ?_) (fun g17 => ?_)
              · replace g17 : 0 ≤ z := (nI_leI (a := 0) (b := z) (by omega) (by omega)).mp g17
                refine R_if 2 (c := v ≤ 0) (t := 68) (f := 55) (L' := [some (.ref 64), some (.int (nI e)), some (.int v), some (.int (nI z)), none]) (st' := []) (h' := mk M T) (fun _ => rfl) (fun g18 => ?_) (fun g18 => ?_)
                · exact absurd g18 (by rcases hv with q | q | q <;> rw [q] <;> decide)
                · refine R_if 3 (c := (nI z) ≤ 24) (t := 68) (f := 61) (L' := [some (.ref 64), some (.int (nI e)), some (.int v), some (.int (nI z)), none]) (st' := []) (h' := mk M T) (fun _ => rfl) (fun g19 => ?_) (fun g19 => ?_)
                  · replace g19 : z ≤ 24 := (nI_leI (a := z) (b := 24) (by omega) (by omega)).mp g19
                    refine R_go 4 (pc' := 74) (L' := [some (.ref 64), some (.int (nI e)), some (.int v), some (.int (nI z)), none]) (st' := [.int v, .int (nI e), .ref 68]) (h' := mk M T) (fun _ => rfl) ?_
                    refine R_iast (c := 65) (n := 4) (j := e) rfl rfl (by omega) (by decide) ?_
                    refine R_ifn 5 (c := v = 0) (t := 88) (f := 84) (L' := [some (.ref 64), some (.int (nI e)), some (.int v), some (.int (nI z)), none]) (st' := [.int (nI e), .ref 69]) (h' := mk (up M 65 e v) T) (fun _ => rfl) (fun g20 => ?_) (fun g20 => ?_)
                    · refine R_go 1 (pc' := 89) (L' := [some (.ref 64), some (.int (nI e)), some (.int v), some (.int (nI z)), none]) (st' := [.int (nI z), .int (nI e), .ref 69]) (h' := mk (up M 65 e v) T) (fun _ => rfl) ?_
                      refine R_iast (c := 66) (n := 4) (j := e) rfl rfl (by omega) (by decide) ?_
                      refine R_go 2 (pc' := 93) (L' := [some (.ref 64), some (.int (nI e)), some (.int v), some (.int (nI z)), some (.int 0)]) (st' := []) (h' := mk (up (up M 65 e v) 66 e (nI z)) T) (fun _ => rfl) ?_
                      refine lp_zero he (v := v) (w := nI z) 24 0 rfl ?_
                      refine R_ret 2 (pcr := 120) (v := some (.int 1)) (h' := mk (zM (up (up M 65 e v) 66 e (nI z)) e 24) T) (fun _ => rfl) ?_
                      exact ⟨rfl, rfl⟩
                    · exact absurd g20 (by rcases hv with q | q | q <;> rw [q] <;> decide)
                  · replace g19 : ¬ z ≤ 24 := fun q => g19 ((nI_leI (a := z) (b := 24) (by omega) (by omega)).mpr q)
                    omega
              · replace g17 : ¬ 0 ≤ z := fun q => g17 ((nI_leI (a := 0) (b := z) (by omega) (by omega)).mpr q)
                omega
          · refine R_go 2 (pc' := 32) (L' := [some (.ref 64), some (.int (nI e)), some (.int v), some (.int (nI z)), none]) (st' := [.int (-1000000001), .ref 64]) (h' := mk M T) (fun _ => rfl) ?_
            refine R_callD (i := .invokevirtual 81) (kd := 0) (y := M_X8_error) (as := [.ref 64, .int (-1000000001)]) (r := []) (L0 := [some (.ref 64), some (.int (-1000000001))]) (v := some (.int (-1000000001))) (h' := mk (up M 64 1 (M 64 1 + 1)) T) (pc' := 35) (st' := [.int (-1000000001)]) rfl rfl rfl rfl rfl rfl (m_error_1) ?_
            refine R_ret 1 (pcr := 35) (v := some (.int (-1000000001))) (h' := mk (up M 64 1 (M 64 1 + 1)) T) (fun _ => rfl) ?_
            exfalso; rcases hv with q | q | q <;> contradiction
  · exact absurd (nI_in2 (a := 0) (b := 3) (by omega) (by omega) (by omega)) g1
set_option maxRecDepth 100000 in
set_option maxHeartbeats 4000000 in
theorem x_sheet_0 {ro : xRO} {d : Nat} {M : xM} {T : Nat} {e : Nat} (he : e < 4) {w : Int32} : Rn ro (d + 90) M_X7_sheet 0 [some (.ref 3), some (.int (nI e)), some (.int 0), some (.int w), none] [] (mk M T) (fun r h => r = some (.int 1) ∧ h = mk (zX (up (up M (52 + 2 * e) 1 0) (52 + 2 * e) 2 0) (53 + 2 * e) 24) T) := by
  refine R_go 2 (pc' := 2) (L' := [some (.ref 3), some (.int (nI e)), some (.int 0), some (.int w), none]) (st' := [.int (nI e), .ref 3]) (h' := mk M T) (fun _ => rfl) ?_
  refine R_callD (i := .invokevirtual 180) (kd := 0) (y := M_X7_sheetAt) (as := [.ref 3, .int (nI e)]) (r := []) (L0 := [some (.ref 3), some (.int (nI e))]) (v := some (.ref (52 + 2 * e + 3))) (h' := mk M T) (pc' := 5) (st' := [.ref (52 + 2 * e + 3)]) rfl rfl rfl rfl rfl rfl (c_sheetAt_in (n := e) (by omega)) ?_
  refine R_go 11 (pc' := 73) (L' := [some (.ref 3), some (.int (nI e)), some (.int 0), some (.int w), some (.ref (52 + 2 * e + 3))]) (st' := [.int 0, .ref (52 + 2 * e + 3)]) (h' := mk M T) (fun _ => rfl) ?_
  refine R_putI (i := 237) (j := 1) (c := 52 + 2 * e) (sh_sheet (by omega)) rfl rfl rfl ?_
  refine R_go 5 (pc' := 87) (L' := [some (.ref 3), some (.int (nI e)), some (.int 0), some (.int w), some (.ref (52 + 2 * e + 3))]) (st' := [.int 0, .ref (52 + 2 * e + 3)]) (h' := mk (up M (52 + 2 * e) 1 0) T) (fun _ => rfl) ?_
  refine R_putI (i := 244) (j := 2) (c := 52 + 2 * e) (sh_sheet (by omega)) rfl rfl rfl ?_
  refine R_go 1 (pc' := 92) (L' := [some (.ref 3), some (.int (nI e)), some (.int 0), some (.int w), some (.ref (52 + 2 * e + 3))]) (st' := [.ref (52 + 2 * e + 3)]) (h' := mk (up (up M (52 + 2 * e) 1 0) (52 + 2 * e) 2 0) T) (fun _ => rfl) ?_
  refine R_getR (i := 259) (j := 0) (c := 52 + 2 * e) (sh_sheet (by omega)) rfl rfl rfl ?_
  refine R_go 1 (pc' := 96) (L' := [some (.ref 3), some (.int (nI e)), some (.int 0), some (.int w), some (.ref (52 + 2 * e + 3))]) (st' := [.int 0, .ref (53 + 2 * e + 3)]) (h' := mk (up (up M (52 + 2 * e) 1 0) (52 + 2 * e) 2 0) T) (fun _ => rfl) ?_
  refine R_callD (i := .invokestatic 262) (kd := 1) (y := M_J7_fill_53178) (as := [.ref (53 + 2 * e + 3), .int 0]) (r := []) (L0 := [some (.ref (53 + 2 * e + 3)), some (.int 0), none, none]) (v := none) (h' := mk (zX (up (up M (52 + 2 * e) 1 0) (52 + 2 * e) 2 0) (53 + 2 * e) 24) T) (pc' := 99) (st' := []) rfl rfl rfl rfl rfl rfl (c_fill (c := 53 + 2 * e) (m := 24) (sh_nums (by omega)) (by omega)) ?_
  refine R_ret 2 (pcr := 100) (v := some (.int 1)) (h' := mk (zX (up (up M (52 + 2 * e) 1 0) (52 + 2 * e) 2 0) (53 + 2 * e) 24) T) (fun _ => rfl) ?_
  exact ⟨rfl, rfl⟩
set_option maxRecDepth 100000 in
set_option maxHeartbeats 4000000 in
theorem m_sheet_0 {ro : xRO} {d : Nat} {M : xM} {T : Nat} {e : Nat} (he : e < 4) {w : Int32} : Rn ro (d + 90) M_X8_sheet 0 [some (.ref 64), some (.int (nI e)), some (.int 0), some (.int w), none] [] (mk M T) (fun r h => r = some (.int 1) ∧ h = mk (zM (up (up M 65 e 0) 66 e 0) e 24) T) := by
  refine R_go 1 (pc' := 1) (L' := [some (.ref 64), some (.int (nI e)), some (.int 0), some (.int w), none]) (st' := [.int (nI e)]) (h' := mk M T) (fun _ => rfl) ?_
  refine R_call2 (i := .invokestatic 168) (kd := 1) (y := M_X8_isSheet) (as := [.int (nI e)]) (r := []) (L0 := [some (.int (nI e))]) (v1 := some (.int 1)) (v2 := some (.int 0)) (h1' := mk M T) (h2' := mk M T) (pc' := 4) (st1 := [.int 1]) (st2 := [.int 0]) rfl rfl rfl rfl rfl rfl (m_isSheet) (fun g1 => ?_) (fun g1 => ?_)
  · refine R_go 11 (pc' := 74) (L' := [some (.ref 64), some (.int (nI e)), some (.int 0), some (.int w), none]) (st' := [.int 0, .int (nI e), .ref 68]) (h' := mk M T) (fun _ => rfl) ?_
    refine R_iast (c := 65) (n := 4) (j := e) rfl rfl (by omega) (by decide) ?_
    refine R_go 7 (pc' := 89) (L' := [some (.ref 64), some (.int (nI e)), some (.int 0), some (.int w), none]) (st' := [.int 0, .int (nI e), .ref 69]) (h' := mk (up M 65 e 0) T) (fun _ => rfl) ?_
    refine R_iast (c := 66) (n := 4) (j := e) rfl rfl (by omega) (by decide) ?_
    refine R_go 2 (pc' := 93) (L' := [some (.ref 64), some (.int (nI e)), some (.int 0), some (.int w), some (.int 0)]) (st' := []) (h' := mk (up (up M 65 e 0) 66 e 0) T) (fun _ => rfl) ?_
    refine lp_zero he (v := 0) (w := w) 24 0 rfl ?_
    refine R_ret 2 (pcr := 120) (v := some (.int 1)) (h' := mk (zM (up (up M 65 e 0) 66 e 0) e 24) T) (fun _ => rfl) ?_
    exact ⟨rfl, rfl⟩
  · exact absurd (nI_in2 (a := 0) (b := 3) (by omega) (by omega) (by omega)) g1
set_option maxHeartbeats 4000000 in
theorem op_sheet {ro : xRO} {M : xM} {T : Nat} (h : Rel M) {i v w : Int32} : OpOK ro M_X7_sheet M_X8_sheet [some (.ref 3), some (.int i), some (.int v), some (.int w), none] [some (.ref 64), some (.int i), some (.int v), some (.int w), none] M T := by
  obtain ⟨P, H, h8, h6, pm, hm, px, hx, a, b1, b2, b3, b4, c2, c3, c4, c5⟩ := rel_all h
  rcases nI_cases i 4 (by omega) with ⟨e, he, rfl⟩ | hi
  · by_cases v0 : v = 0
    · subst v0
      exact OpOK.of (fun d => x_sheet_0 he) (fun d => m_sheet_0 he) rfl (h.sheet (z := 0) he (Or.inl rfl) (by omega) (fun _ => rfl))
    · by_cases hv : v = 8 ∨ v = 16 ∨ v = 32
      · rcases of_in w (b := 24) (by omega) with ⟨z, z24, rfl⟩ | hw
        · exact OpOK.of (fun d => x_sheet_i he hv z24) (fun d => m_sheet_i he hv z24) rfl (h.sheet he (Or.inr hv) z24 (fun q => absurd q v0))
        · by_cases w0 : w < 0
          · exact OpOK.of (fun d => x_sheet_n he hv w0) (fun d => m_sheet_n (M := up M 60 3 (M 60 3 + 1)) he hv w0) rfl (h.err 3 (by omega))
          · have w1 : 24 < w := by
              rcases Int32.lt_or_le 24 w with q | q
              · exact q
              · exact absurd ⟨by rcases Int32.lt_or_le w 0 with r | r; exact absurd r w0; exact r, q⟩ hw
            exact OpOK.of (fun d => x_sheet_b he hv w1) (fun d => m_sheet_b (M := up M 60 1 (M 60 1 + 1)) he hv w1) rfl (h.err 1 (by omega))
      · have e8 : ¬ v = 8 := fun q => hv (Or.inl q)
        have e16 : ¬ v = 16 := fun q => hv (Or.inr (Or.inl q))
        have e32 : ¬ v = 32 := fun q => hv (Or.inr (Or.inr q))
        exact OpOK.of (fun d => x_sheet_v he v0 e8 e16 e32) (fun d => m_sheet_v (M := up M 60 1 (M 60 1 + 1)) he v0 e8 e16 e32) rfl (h.err 1 (by omega))
  · exact OpOK.of (fun d => x_sheet_o hi) (fun d => m_sheet_o (M := up M 60 1 (M 60 1 + 1)) hi) rfl (h.err 1 (by omega))
