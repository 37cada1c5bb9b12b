/-! OPERATIONS put, sheet -/
theorem low8_ext {a b : Int32} (h : a.toInt8 = b.toInt8) : a &&& 255 = b &&& 255 := by
  have h2 : (a &&& 255).toInt8 = (b &&& 255).toInt8 := by rw [and_low8, and_low8, h]
  apply Int32.toBitVec_inj.mp
  apply BitVec.eq_of_getElem_eq
  intro i hi
  have h3 := congrArg (fun z => z.toBitVec) h
  simp only [Int32.toBitVec_and, BitVec.getElem_and]
  by_cases q : i < 8
  · have h4 := congrArg (fun z : BitVec 8 => z[i]) h3
    simp only [Int32.toBitVec_toInt8, BitVec.getElem_signExtend] at h4
    simp only [show i < 32 by omega, dif_pos] at h4
    rw [h4]
  · have : (Int32.toBitVec 255)[i] = false := by
      rw [BitVec.getElem_eq_testBit_toNat]
      have : (255 : Nat).testBit i = false := by
        rw [Nat.testBit_lt_two_pow]
        exact Nat.lt_of_lt_of_le (by decide : 255 < 2 ^ 8) (Nat.pow_le_pow_right (by decide) (by omega))
      exact this
    rw [this, Bool.and_false, Bool.and_false]
theorem low16_ext {a b : Int32} (h : a.toInt16 = b.toInt16) : a &&& 65535 = b &&& 65535 := by
  apply Int32.toBitVec_inj.mp
  apply BitVec.eq_of_getElem_eq
  intro i hi
  have h3 := congrArg (fun z => z.toBitVec) h
  simp only [Int32.toBitVec_and, BitVec.getElem_and]
  by_cases q : i < 16
  · have h4 := congrArg (fun z : BitVec 16 => z[i]) h3
    simp only [Int32.toBitVec_toInt16, BitVec.getElem_signExtend] at h4
    simp only [show i < 32 by omega, dif_pos] at h4
    rw [h4]
  · have : (Int32.toBitVec 65535)[i] = false := by
      rw [BitVec.getElem_eq_testBit_toNat]
      have : (65535 : Nat).testBit i = false := by
        rw [Nat.testBit_lt_two_pow]
        exact Nat.lt_of_lt_of_le (by decide : 65535 < 2 ^ 16) (Nat.pow_le_pow_right (by decide) (by omega))
      exact this
    rw [this, Bool.and_false, Bool.and_false]
theorem numR_8 (v : Int32) : numR 8 (v &&& 255) v.toInt8.toInt32 := by
  refine ⟨fun _ => ⟨low8_ext ?_, ?_⟩, fun q => absurd q (by decide), fun q => absurd q (by decide), fun q => absurd q (by decide)⟩
  · rw [Int8.toInt8_toInt32]
  · rw [Int8.toInt8_toInt32]
theorem numR_16 (v : Int32) : numR 16 (v &&& 65535) v.toInt16.toInt32 := by
  refine ⟨fun q => absurd q (by decide), fun _ => ⟨low16_ext ?_, ?_⟩, fun q => absurd q (by decide), fun q => absurd q (by decide)⟩
  · rw [Int16.toInt16_toInt32]
  · rw [Int16.toInt16_toInt32]
theorem numR_32 (v : Int32) : numR 32 v v := ⟨fun q => absurd q (by decide), fun q => absurd q (by decide), fun _ => rfl, fun q => absurd q (by decide)⟩
theorem Rel.sheets {M M' : xM} (h : Rel M) (hf : ∀ c, ¬ (52 ≤ c ∧ c ≤ 59) → c ≠ 65 → c ≠ 66 → c ≠ 67 → M' c = M c) (hs : shR M') : Rel M' :=
  ⟨⟨h.1.1.frame (fun c a b => hf c (by omega) (by omega) (by omega) (by omega)) (hf 62 (by omega) (by omega) (by omega) (by omega)), by rw [hf 62 (by omega) (by omega) (by omega) (by omega)]; exact h.1.2⟩, h.2.1.frame (by rw [hf 0 (by omega) (by omega) (by omega) (by omega)]) (by rw [hf 61 (by omega) (by omega) (by omega) (by omega)]) (fun c a b => hf c (by omega) (by omega) (by omega) (by omega)) (hf 63 (by omega) (by omega) (by omega) (by omega)), hs, fun k a b => by rw [hf 60 (by omega) (by omega) (by omega) (by omega), hf 64 (by omega) (by omega) (by omega) (by omega)]; exact h.2.2.2.1 k a b, h.2.2.2.2.1.frame (by rw [hf 49 (by omega) (by omega) (by omega) (by omega)]) (by rw [hf 61 (by omega) (by omega) (by omega) (by omega)]) (hf 50 (by omega) (by omega) (by omega) (by omega)) (hf 75 (by omega) (by omega) (by omega) (by omega)), by rw [hf 61 (by omega) (by omega) (by omega) (by omega)]; exact h.2.2.2.2.2⟩
theorem Rel.put {M : xM} (h : Rel M) {e n : Nat} {c m : Int32} (he : e < 4) (hn : n < 24) (hr : numR (M 65 e) c m) : Rel (up (up M (53 + 2 * e) n c) 67 (24 * e + n) m) := by
  refine h.sheets (fun a b c2 c3 c4 => by rw [up_ne c4, up_ne (by omega)]) (fun s hs => ?_)
  obtain ⟨h1, h2, h3, h4, h5, h6⟩ := h.2.2.1 s hs
  simp only [up_rd]
  simp only [show ¬ (52 + 2 * s = 67 ∧ (1 : Nat) = 24 * e + n) by omega, show ¬ (52 + 2 * s = 67 ∧ (2 : Nat) = 24 * e + n) by omega, show ¬ (52 + 2 * s = 53 + 2 * e ∧ (1 : Nat) = n) by omega, show ¬ (52 + 2 * s = 53 + 2 * e ∧ (2 : Nat) = n) by omega, show ¬ (65 = 67 ∧ s = 24 * e + n) by omega, show ¬ (66 = 67 ∧ s = 24 * e + n) by omega, show ¬ (65 = 53 + 2 * e ∧ s = n) by omega, show ¬ (66 = 53 + 2 * e ∧ s = n) by omega, if_false]
  refine ⟨h1, h2, h3, h4, h5, fun i hi => ?_⟩
  rw [if_neg (show ¬ (53 + 2 * s = 67 ∧ i = 24 * e + n) by omega), if_neg (show ¬ (67 = 53 + 2 * e ∧ 24 * s + i = n) by omega)]
  by_cases q : s = e ∧ i = n
  · obtain ⟨rfl, rfl⟩ := q
    rw [if_pos ⟨rfl, rfl⟩, if_pos ⟨trivial, rfl⟩]
    exact hr
  · rw [if_neg (show ¬ (53 + 2 * s = 53 + 2 * e ∧ i = n) by omega), if_neg (show ¬ (True ∧ 24 * s + i = 24 * e + n) from fun w => by have := w.2; omega)]
    exact h6 i hi
set_option maxRecDepth 100000 in
set_option maxHeartbeats 4000000 in
theorem x_put_o {ro : xRO} {d : Nat} {M : xM} {T : Nat} {i : Int32} (hi : ¬ (0 ≤ i ∧ i < 4)) {v : Int32} {w : Int32} : Rn ro (d + 90) M_X7_put 0 [some (.ref 3), some (.int i), some (.int v), some (.int w), none] [] (mk M T) (fun r h => r = some (.int (-1000000001)) ∧ h = mk (up M 60 1 (M 60 1 + 1)) T) := by
  refine R_go 2 (pc' := 2) (L' := [some (.ref 3), some (.int i), some (.int v), some (.int w), none]) (st' := [.int i, .ref 3]) (h' := mk M T) (fun _ => rfl) ?_
  refine R_callD (i := .invokevirtual 180) (kd := 0) (y := M_X7_sheetAt) (as := [.ref 3, .int i]) (r := []) (L0 := [some (.ref 3), some (.int i)]) (v := some (.null)) (h' := mk M T) (pc' := 5) (st' := [.null]) rfl rfl rfl rfl rfl rfl (c_sheetAt_out hi) ?_
  refine R_go 5 (pc' := 14) (L' := [some (.ref 3), some (.int i), some (.int v), some (.int w), some (.null)]) (st' := [.int 1, .ref 3]) (h' := mk M T) (fun _ => rfl) ?_
  refine R_callD (i := .invokevirtual 75) (kd := 0) (y := M_X7_error) (as := [.ref 3, .int 1]) (r := []) (L0 := [some (.ref 3), some (.int 1)]) (v := some (.int (-1000000001))) (h' := mk (up M 60 1 (M 60 1 + 1)) T) (pc' := 17) (st' := [.int (-1000000001)]) rfl rfl rfl rfl rfl rfl (c_error_1) ?_
  refine R_ret 1 (pcr := 17) (v := some (.int (-1000000001))) (h' := mk (up M 60 1 (M 60 1 + 1)) T) (fun _ => rfl) ?_
  exact ⟨rfl, rfl⟩
set_option maxRecDepth 100000 in
set_option maxHeartbeats 4000000 in
theorem m_put_o {ro : xRO} {d : Nat} {M : xM} {T : Nat} {i : Int32} (hi : ¬ (0 ≤ i ∧ i < 4)) {v : Int32} {w : Int32} : Rn ro (d + 90) M_X8_put 0 [some (.ref 64), some (.int i), some (.int v), some (.int w), none] [] (mk M T) (fun r h => r = some (.int (-1000000001)) ∧ h = mk (up M 64 1 (M 64 1 + 1)) T) := by
  refine R_go 2 (pc' := 2) (L' := [some (.ref 64), some (.int i), some (.int v), some (.int w), none]) (st' := [.int i, .ref 64]) (h' := mk M T) (fun _ => rfl) ?_
  refine R_callD (i := .invokevirtual 249) (kd := 0) (y := M_X8_notThere) (as := [.ref 64, .int i]) (r := []) (L0 := [some (.ref 64), some (.int i)]) (v := some (.int (-1000000001))) (h' := mk M T) (pc' := 5) (st' := [.int (-1000000001)]) rfl rfl rfl rfl rfl rfl (m_notThere_o hi) ?_
  refine R_go 9 (pc' := 45) (L' := [some (.ref 64), some (.int i), some (.int v), some (.int w), some (.int (-1000000001))]) (st' := [.int (-1000000001), .ref 64]) (h' := mk M T) (fun _ => rfl) ?_
  refine R_callD (i := .invokevirtual 81) (kd := 0) (y := M_X8_error) (as := [.ref 64, .int (-1000000001)]) (r := []) (L0 := [some (.ref 64), some (.int (-1000000001))]) (v := some (.int (-1000000001))) (h' := mk (up M 64 1 (M 64 1 + 1)) T) (pc' := 48) (st' := [.int (-1000000001)]) rfl rfl rfl rfl rfl rfl (m_error_1) ?_
  refine R_ret 1 (pcr := 48) (v := some (.int (-1000000001))) (h' := mk (up M 64 1 (M 64 1 + 1)) T) (fun _ => rfl) ?_
  exact ⟨rfl, rfl⟩
set_option maxRecDepth 100000 in
set_option maxHeartbeats 4000000 in
theorem x_put_0 {ro : xRO} {d : Nat} {M : xM} {T : Nat} {e : Nat} (he : e < 4) (hb : M (52 + 2 * e) 1 = nI 0) {v : Int32} {w : Int32} : Rn ro (d + 90) M_X7_put 0 [some (.ref 3), some (.int (nI e)), some (.int v), some (.int w), none] [] (mk M T) (fun r h => r = some (.int (-1000000002)) ∧ h = mk (up M 60 2 (M 60 2 + 1)) T) := by
  refine R_go 2 (pc' := 2) (L' := [some (.ref 3), some (.int (nI e)), some (.int v), some (.int w), none]) (st' := [.int (nI e), .ref 3]) (h' := mk M T) (fun _ => rfl) ?_
  refine R_callD (i := .invokevirtual 180) (kd := 0) (y := M_X7_sheetAt) (as := [.ref 3, .int (nI e)]) (r := []) (L0 := [some (.ref 3), some (.int (nI e))]) (v := some (.ref (52 + 2 * e + 3))) (h' := mk M T) (pc' := 5) (st' := [.ref (52 + 2 * e + 3)]) rfl rfl rfl rfl rfl rfl (c_sheetAt_in (n := e) (by omega)) ?_
  refine R_go 4 (pc' := 20) (L' := [some (.ref 3), some (.int (nI e)), some (.int v), some (.int w), some (.ref (52 + 2 * e + 3))]) (st' := [.ref (52 + 2 * e + 3)]) (h' := mk M T) (fun _ => rfl) ?_
  refine R_getI (i := 237) (j := 1) (c := 52 + 2 * e) (sh_sheet (by omega)) rfl rfl rfl ?_
  refine R_top (y := 0) (hb) ?_
  refine R_go 3 (pc' := 28) (L' := [some (.ref 3), some (.int (nI e)), some (.int v), some (.int w), some (.ref (52 + 2 * e + 3))]) (st' := [.int 2, .ref 3]) (h' := mk M T) (fun _ => rfl) ?_
  refine R_callD (i := .invokevirtual 75) (kd := 0) (y := M_X7_error) (as := [.ref 3, .int 2]) (r := []) (L0 := [some (.ref 3), some (.int 2)]) (v := some (.int (-1000000002))) (h' := mk (up M 60 2 (M 60 2 + 1)) T) (pc' := 31) (st' := [.int (-1000000002)]) rfl rfl rfl rfl rfl rfl (c_error_2) ?_
  refine R_ret 1 (pcr := 31) (v := some (.int (-1000000002))) (h' := mk (up M 60 2 (M 60 2 + 1)) T) (fun _ => rfl) ?_
  exact ⟨rfl, rfl⟩
set_option maxRecDepth 100000 in
set_option maxHeartbeats 4000000 in
theorem m_put_0 {ro : xRO} {d : Nat} {M : xM} {T : Nat} {e : Nat} (he : e < 4) (hb : M 65 e = nI 0) {v : Int32} {w : Int32} : Rn ro (d + 90) M_X8_put 0 [some (.ref 64), some (.int (nI e)), some (.int v), some (.int w), none] [] (mk M T) (fun r h => r = some (.int (-1000000002)) ∧ h = mk (up M 64 2 (M 64 2 + 1)) T) := by
  refine R_go 2 (pc' := 2) (L' := [some (.ref 64), some (.int (nI e)), some (.int v), some (.int w), none]) (st' := [.int (nI e), .ref 64]) (h' := mk M T) (fun _ => rfl) ?_
  refine R_callD (i := .invokevirtual 249) (kd := 0) (y := M_X8_notThere) (as := [.ref 64, .int (nI e)]) (r := []) (L0 := [some (.ref 64), some (.int (nI e))]) (v := some (.int (-1000000002))) (h' := mk M T) (pc' := 5) (st' := [.int (-1000000002)]) rfl rfl rfl rfl rfl rfl (m_notThere_0 he hb) ?_
  refine R_go 9 (pc' := 45) (L' := [some (.ref 64), some (.int (nI e)), some (.int v), some (.int w), some (.int (-1000000002))]) (st' := [.int (-1000000002), .ref 64]) (h' := mk M T) (fun _ => rfl) ?_
  refine R_callD (i := .invokevirtual 81) (kd := 0) (y := M_X8_error) (as := [.ref 64, .int (-1000000002)]) (r := []) (L0 := [some (.ref 64), some (.int (-1000000002))]) (v := some (.int (-1000000002))) (h' := mk (up M 64 2 (M 64 2 + 1)) T) (pc' := 48) (st' := [.int (-1000000002)]) rfl rfl rfl rfl rfl rfl (m_error_2) ?_
  refine R_ret 1 (pcr := 48) (v := some (.int (-1000000002))) (h' := mk (up M 64 2 (M 64 2 + 1)) T) (fun _ => rfl) ?_
  exact ⟨rfl, rfl⟩
set_option maxRecDepth 100000 in
set_option maxHeartbeats 4000000 in
theorem c_keep_8 {ro : xRO} {d : Nat} {M : xM} {T : Nat} {e : Nat} (he : e < 4) {z : Nat} (hz : M (52 + 2 * e) 2 = nI z) (z24 : z ≤ 24) (hb : M (52 + 2 * e) 1 = nI 8) {n : Nat} (hn : n < z) {v : Int32} : Rn ro d M_X4_keep 0 [some (.ref (52 + 2 * e + 3)), some (.int (nI n)), some (.int v)] [] (mk M T) (fun r h => r = some (.int 1) ∧ h = mk (up M (53 + 2 * e) n (v &&& 255)) T) := by
  refine R_if 2 (c := (nI n) < 0) (t := 21) (f := 4) (L' := [some (.ref (52 + 2 * e + 3)), some (.int (nI n)), some (.int v)]) (st' := []) (h' := mk M T) (fun _ => rfl) (fun g1 => ?_) (fun g1 => ?_)
  · replace g1 : n < 0 := (nI_ltI (a := n) (b := 0) (by omega) (by omega)).mp g1
    omega
  · replace g1 : ¬ n < 0 := fun q => g1 ((nI_ltI (a := n) (b := 0) (by omega) (by omega)).mpr q)
    refine R_go 2 (pc' := 6) (L' := [some (.ref (52 + 2 * e + 3)), some (.int (nI n)), some (.int v)]) (st' := [.ref (52 + 2 * e + 3), .int (nI n)]) (h' := mk M T) (fun _ => rfl) ?_
    refine R_getI (i := 15) (j := 2) (c := 52 + 2 * e) (sh_sheet (by omega)) rfl rfl rfl ?_
    refine R_top (y := nI z) (hz) ?_
    refine R_if 1 (c := (nI z) ≤ (nI n)) (t := 21) (f := 12) (L' := [some (.ref (52 + 2 * e + 3)), some (.int (nI n)), some (.int v)]) (st' := []) (h' := mk M T) (fun _ => rfl) (fun g2 => ?_) (fun g2 => ?_)
    · replace g2 : z ≤ n := (nI_leI (a := z) (b := n) (by omega) (by omega)).mp g2
      omega
    · replace g2 : ¬ z ≤ n := fun q => g2 ((nI_leI (a := z) (b := n) (by omega) (by omega)).mpr q)
      refine R_go 2 (pc' := 14) (L' := [some (.ref (52 + 2 * e + 3)), some (.int (nI n)), some (.int v)]) (st' := [.ref (52 + 2 * e + 3), .int (nI n)]) (h' := mk M T) (fun _ => rfl) ?_
      refine R_getR (i := 9) (j := 0) (c := 52 + 2 * e) (sh_sheet (by omega)) rfl rfl rfl ?_
      refine R_alen (c := 53 + 2 * e) (sh_nums (by omega)) rfl ?_
      refine R_if 1 (c := (nI n) < 24) (t := 23) (f := 21) (L' := [some (.ref (52 + 2 * e + 3)), some (.int (nI n)), some (.int v)]) (st' := []) (h' := mk M T) (fun _ => rfl) (fun g3 => ?_) (fun g3 => ?_)
      · replace g3 : n < 24 := (nI_ltI (a := n) (b := 24) (by omega) (by omega)).mp g3
        refine R_go 1 (pc' := 24) (L' := [some (.ref (52 + 2 * e + 3)), some (.int (nI n)), some (.int v)]) (st' := [.ref (52 + 2 * e + 3)]) (h' := mk M T) (fun _ => rfl) ?_
        refine R_getI (i := 19) (j := 1) (c := 52 + 2 * e) (sh_sheet (by omega)) rfl rfl rfl ?_
        refine R_top (y := 8) (hb) ?_
        refine R_go 3 (pc' := 33) (L' := [some (.ref (52 + 2 * e + 3)), some (.int (nI n)), some (.int v)]) (st' := [.ref (52 + 2 * e + 3)]) (h' := mk M T) (fun _ => rfl) ?_
        refine R_getR (i := 9) (j := 0) (c := 52 + 2 * e) (sh_sheet (by omega)) rfl rfl rfl ?_
        refine R_go 4 (pc' := 42) (L' := [some (.ref (52 + 2 * e + 3)), some (.int (nI n)), some (.int v)]) (st' := [.int (v &&& 255), .int (nI n), .ref (53 + 2 * e + 3)]) (h' := mk M T) (fun _ => rfl) ?_
        refine R_iast (c := 53 + 2 * e) (n := 24) (j := n) (sh_nums (by omega)) rfl (by omega) (by decide) ?_
        refine R_ret 3 (pcr := 70) (v := some (.int 1)) (h' := mk (up M (53 + 2 * e) n (v &&& 255)) T) (fun _ => rfl) ?_
        exact ⟨rfl, rfl⟩
      · replace g3 : ¬ n < 24 := fun q => g3 ((nI_ltI (a := n) (b := 24) (by omega) (by omega)).mpr q)
        omega
set_option maxRecDepth 100000 in
set_option maxHeartbeats 4000000 in
theorem x_put_8 {ro : xRO} {d : Nat} {M : xM} {T : Nat} {e : Nat} (he : e < 4) {z : Nat} (hz : M (52 + 2 * e) 2 = nI z) (z24 : z ≤ 24) (hb : M (52 + 2 * e) 1 = nI 8) {n : Nat} (hn : n < z) {v : Int32} : Rn ro (d + 90) M_X7_put 0 [some (.ref 3), some (.int (nI e)), some (.int (nI n)), some (.int v), none] [] (mk M T) (fun r h => r = some (.int 1) ∧ h = mk (up M (53 + 2 * e) n (v &&& 255)) T) := by
  refine R_go 2 (pc' := 2) (L' := [some (.ref 3), some (.int (nI e)), some (.int (nI n)), some (.int v), none]) (st' := [.int (nI e), .ref 3]) (h' := mk M T) (fun _ => rfl) ?_
  refine R_callD (i := .invokevirtual 180) (kd := 0) (y := M_X7_sheetAt) (as := [.ref 3, .int (nI e)]) (r := []) (L0 := [some (.ref 3), some (.int (nI e))]) (v := some (.ref (52 + 2 * e + 3))) (h' := mk M T) (pc' := 5) (st' := [.ref (52 + 2 * e + 3)]) rfl rfl rfl rfl rfl rfl (c_sheetAt_in (n := e) (by omega)) ?_
  refine R_go 4 (pc' := 20) (L' := [some (.ref 3), some (.int (nI e)), some (.int (nI n)), some (.int v), some (.ref (52 + 2 * e + 3))]) (st' := [.ref (52 + 2 * e + 3)]) (h' := mk M T) (fun _ => rfl) ?_
  refine R_getI (i := 237) (j := 1) (c := 52 + 2 * e) (sh_sheet (by omega)) rfl rfl rfl ?_
  refine R_top (y := 8) (hb) ?_
  refine R_go 4 (pc' := 36) (L' := [some (.ref 3), some (.int (nI e)), some (.int (nI n)), some (.int v), some (.ref (52 + 2 * e + 3))]) (st' := [.int v, .int (nI n), .ref (52 + 2 * e + 3)]) (h' := mk M T) (fun _ => rfl) ?_
  refine R_callD (i := .invokevirtual 268) (kd := 0) (y := M_X4_keep) (as := [.ref (52 + 2 * e + 3), .int (nI n), .int v]) (r := []) (L0 := [some (.ref (52 + 2 * e + 3)), some (.int (nI n)), some (.int v)]) (v := some (.int 1)) (h' := mk (up M (53 + 2 * e) n (v &&& 255)) T) (pc' := 39) (st' := [.int 1]) rfl rfl rfl rfl (xPre_c (sh_sheet (by omega)) rfl rfl rfl rfl) rfl (c_keep_8 he hz z24 hb hn) ?_
  refine R_ret 4 (pcr := 51) (v := some (.int 1)) (h' := mk (up M (53 + 2 * e) n (v &&& 255)) T) (fun _ => rfl) ?_
  exact ⟨rfl, rfl⟩
set_option maxRecDepth 100000 in
set_option maxHeartbeats 4000000 in
theorem m_put_8 {ro : xRO} {d : Nat} {M : xM} {T : Nat} {e : Nat} (he : e < 4) {z : Nat} (hz : M 66 e = nI z) (z24 : z ≤ 24) (hb : M 65 e = nI 8) {n : Nat} (hn : n < z) {v : Int32} : Rn ro (d + 90) M_X8_put 0 [some (.ref 64), some (.int (nI e)), some (.int (nI n)), some (.int v), none] [] (mk M T) (fun r h => r = some (.int 1) ∧ h = mk (up M 67 (24 * e + n) (v.toInt8.toInt32)) T) := by
  refine R_go 2 (pc' := 2) (L' := [some (.ref 64), some (.int (nI e)), some (.int (nI n)), some (.int v), none]) (st' := [.int (nI e), .ref 64]) (h' := mk M T) (fun _ => rfl) ?_
  refine R_callD (i := .invokevirtual 249) (kd := 0) (y := M_X8_notThere) (as := [.ref 64, .int (nI e)]) (r := []) (L0 := [some (.ref 64), some (.int (nI e))]) (v := some (.int 0)) (h' := mk M T) (pc' := 5) (st' := [.int 0]) rfl rfl rfl rfl rfl rfl (m_notThere_i he hb (b := 8) (by omega) (by omega)) ?_
  refine R_go 8 (pc' := 19) (L' := [some (.ref 64), some (.int (nI e)), some (.int (nI n)), some (.int v), some (.int 0)]) (st' := [.int (nI e), .ref 69, .int 0, .int (nI n)]) (h' := mk M T) (fun _ => rfl) ?_
  refine R_iald (c := 66) (n := 4) (j := e) rfl rfl (by omega) (by decide) ?_
  refine R_top (y := nI z) (hz) ?_
  refine R_go 2 (pc' := 22) (L' := [some (.ref 64), some (.int (nI e)), some (.int (nI n)), some (.int v), some (.int 0)]) (st' := [.int ((nI z) - 1), .int 0, .int (nI n)]) (h' := mk M T) (fun _ => rfl) ?_
  refine R_call2 (i := .invokestatic 53) (kd := 1) (y := M_X8_in) (as := [.int (nI n), .int 0, .int ((nI z) - 1)]) (r := []) (L0 := [some (.int (nI n)), some (.int 0), some (.int ((nI z) - 1))]) (v1 := some (.int 1)) (v2 := some (.int 0)) (h1' := mk M T) (h2' := mk M T) (pc' := 25) (st1 := [.int 1]) (st2 := [.int 0]) rfl rfl rfl rfl rfl rfl (m_in) (fun g1 => ?_) (fun g1 => ?_)
  · refine R_go 10 (pc' := 57) (L' := [some (.ref 64), some (.int (nI e)), some (.int (nI n)), some (.int v), some (.int 0)]) (st' := [.int (24 * nI e), .ref 70]) (h' := mk M T) (fun _ => rfl) ?_
    refine R_top (pk_mul 24 e) ?_
    refine R_go 2 (pc' := 59) (L' := [some (.ref 64), some (.int (nI e)), some (.int (nI n)), some (.int v), some (.int 0)]) (st' := [.int (nI (24 * e) + nI n), .ref 70]) (h' := mk M T) (fun _ => rfl) ?_
    refine R_top (nI_add (24 * e) n) ?_
    refine R_go 3 (pc' := 64) (L' := [some (.ref 64), some (.int (nI e)), some (.int (nI n)), some (.int v), some (.int 0)]) (st' := [.int (nI e), .ref 68, .int (nI ((24 * e) + n)), .ref 70]) (h' := mk M T) (fun _ => rfl) ?_
    refine R_iald (c := 65) (n := 4) (j := e) rfl rfl (by omega) (by decide) ?_
    refine R_top (y := 8) (hb) ?_
    refine R_go 5 (pc' := 92) (L' := [some (.ref 64), some (.int (nI e)), some (.int (nI n)), some (.int v), some (.int 0)]) (st' := [.int v.toInt8.toInt32, .int (nI ((24 * e) + n)), .ref 70]) (h' := mk M T) (fun _ => rfl) ?_
    refine R_iast (c := 67) (n := 96) (j := (24 * e) + n) rfl rfl (by omega) (by decide) ?_
    refine R_ret 2 (pcr := 94) (v := some (.int 1)) (h' := mk (up M 67 ((24 * e) + n) v.toInt8.toInt32) T) (fun _ => rfl) ?_
    exact ⟨rfl, rfl⟩
  · exact absurd ((in_lt (by omega)).mpr ⟨nI_pos' (by omega), nI_lt hn (by omega)⟩) g1
set_option maxRecDepth 100000 in
set_option maxHeartbeats 4000000 in
theorem c_keep_16 {ro : xRO} {d : Nat} {M : xM} {T : Nat} {e : Nat} (he : e < 4) {z : Nat} (hz : M (52 + 2 * e) 2 = nI z) (z24 : z ≤ 24) (hb : M (52 + 2 * e) 1 = nI 16) {n : Nat} (hn : n < z) {v : Int32} : Rn ro d M_X4_keep 0 [some (.ref (52 + 2 * e + 3)), some (.int (nI n)), some (.int v)] [] (mk M T) (fun r h => r = some (.int 1) ∧ h = mk (up M (53 + 2 * e) n (v &&& 65535)) T) := by
  refine R_if 2 (c := (nI n) < 0) (t := 21) (f := 4) (L' := [some (.ref (52 + 2 * e + 3)), some (.int (nI n)), some (.int v)]) (st' := []) (h' := mk M T) (fun _ => rfl) (fun g1 => ?_) (fun g1 => ?_)
  · replace g1 : n < 0 := (nI_ltI (a := n) (b := 0) (by omega) (by omega)).mp g1
    omega
  · replace g1 : ¬ n < 0 := fun q => g1 ((nI_ltI (a := n) (b := 0) (by omega) (by omega)).mpr q)
    refine R_go 2 (pc' := 6) (L' := [some (.ref (52 + 2 * e + 3)), some (.int (nI n)), some (.int v)]) (st' := [.ref (52 + 2 * e + 3), .int (nI n)]) (h' := mk M T) (fun _ => rfl) ?_
    refine R_getI (i := 15) (j := 2) (c := 52 + 2 * e) (sh_sheet (by omega)) rfl rfl rfl ?_
    refine R_top (y := nI z) (hz) ?_
    refine R_if 1 (c := (nI z) ≤ (nI n)) (t := 21) (f := 12) (L' := [some (.ref (52 + 2 * e + 3)), some (.int (nI n)), some (.int v)]) (st' := []) (h' := mk M T) (fun _ => rfl) (fun g2 => ?_) (fun g2 => ?_)
    · replace g2 : z ≤ n := (nI_leI (a := z) (b := n) (by omega) (by omega)).mp g2
      omega
    · replace g2 : ¬ z ≤ n := fun q => g2 ((nI_leI (a := z) (b := n) (by omega) (by omega)).mpr q)
      refine R_go 2 (pc' := 14) (L' := [some (.ref (52 + 2 * e + 3)), some (.int (nI n)), some (.int v)]) (st' := [.ref (52 + 2 * e + 3), .int (nI n)]) (h' := mk M T) (fun _ => rfl) ?_
      refine R_getR (i := 9) (j := 0) (c := 52 + 2 * e) (sh_sheet (by omega)) rfl rfl rfl ?_
      refine R_alen (c := 53 + 2 * e) (sh_nums (by omega)) rfl ?_
      refine R_if 1 (c := (nI n) < 24) (t := 23) (f := 21) (L' := [some (.ref (52 + 2 * e + 3)), some (.int (nI n)), some (.int v)]) (st' := []) (h' := mk M T) (fun _ => rfl) (fun g3 => ?_) (fun g3 => ?_)
      · replace g3 : n < 24 := (nI_ltI (a := n) (b := 24) (by omega) (by omega)).mp g3
        refine R_go 1 (pc' := 24) (L' := [some (.ref (52 + 2 * e + 3)), some (.int (nI n)), some (.int v)]) (st' := [.ref (52 + 2 * e + 3)]) (h' := mk M T) (fun _ => rfl) ?_
        refine R_getI (i := 19) (j := 1) (c := 52 + 2 * e) (sh_sheet (by omega)) rfl rfl rfl ?_
        refine R_top (y := 16) (hb) ?_
        refine R_go 3 (pc' := 47) (L' := [some (.ref (52 + 2 * e + 3)), some (.int (nI n)), some (.int v)]) (st' := [.ref (52 + 2 * e + 3)]) (h' := mk M T) (fun _ => rfl) ?_
        refine R_getR (i := 9) (j := 0) (c := 52 + 2 * e) (sh_sheet (by omega)) rfl rfl rfl ?_
        refine R_go 2 (pc' := 52) (L' := [some (.ref (52 + 2 * e + 3)), some (.int (nI n)), some (.int v)]) (st' := [.ref (52 + 2 * e + 3), .int (nI n), .ref (53 + 2 * e + 3)]) (h' := mk M T) (fun _ => rfl) ?_
        refine R_getI (i := 19) (j := 1) (c := 52 + 2 * e) (sh_sheet (by omega)) rfl rfl rfl ?_
        refine R_top (y := 16) (hb) ?_
        refine R_go 6 (pc' := 68) (L' := [some (.ref (52 + 2 * e + 3)), some (.int (nI n)), some (.int v)]) (st' := [.int (v &&& 65535), .int (nI n), .ref (53 + 2 * e + 3)]) (h' := mk M T) (fun _ => rfl) ?_
        refine R_iast (c := 53 + 2 * e) (n := 24) (j := n) (sh_nums (by omega)) rfl (by omega) (by decide) ?_
        refine R_ret 2 (pcr := 70) (v := some (.int 1)) (h' := mk (up M (53 + 2 * e) n (v &&& 65535)) T) (fun _ => rfl) ?_
        exact ⟨rfl, rfl⟩
      · replace g3 : ¬ n < 24 := fun q => g3 ((nI_ltI (a := n) (b := 24) (by omega) (by omega)).mpr q)
        omega
set_option maxRecDepth 100000 in
set_option maxHeartbeats 4000000 in
theorem x_put_16 {ro : xRO} {d : Nat} {M : xM} {T : Nat} {e : Nat} (he : e < 4) {z : Nat} (hz : M (52 + 2 * e) 2 = nI z) (z24 : z ≤ 24) (hb : M (52 + 2 * e) 1 = nI 16) {n : Nat} (hn : n < z) {v : Int32} : Rn ro (d + 90) M_X7_put 0 [some (.ref 3), some (.int (nI e)), some (.int (nI n)), some (.int v), none] [] (mk M T) (fun r h => r = some (.int 1) ∧ h = mk (up M (53 + 2 * e) n (v &&& 65535)) T) := by
  refine R_go 2 (pc' := 2) (L' := [some (.ref 3), some (.int (nI e)), some (.int (nI n)), some (.int v), none]) (st' := [.int (nI e), .ref 3]) (h' := mk M T) (fun _ => rfl) ?_
  refine R_callD (i := .invokevirtual 180) (kd := 0) (y := M_X7_sheetAt) (as := [.ref 3, .int (nI e)]) (r := []) (L0 := [some (.ref 3), some (.int (nI e))]) (v := some (.ref (52 + 2 * e + 3))) (h' := mk M T) (pc' := 5) (st' := [.ref (52 + 2 * e + 3)]) rfl rfl rfl rfl rfl rfl (c_sheetAt_in (n := e) (by omega)) ?_
  refine R_go 4 (pc' := 20) (L' := [some (.ref 3), some (.int (nI e)), some (.int (nI n)), some (.int v), some (.ref (52 + 2 * e + 3))]) (st' := [.ref (52 + 2 * e + 3)]) (h' := mk M T) (fun _ => rfl) ?_
  refine R_getI (i := 237) (j := 1) (c := 52 + 2 * e) (sh_sheet (by omega)) rfl rfl rfl ?_
  refine R_top (y := 16) (hb) ?_
  refine R_go 4 (pc' := 36) (L' := [some (.ref 3), some (.int (nI e)), some (.int (nI n)), some (.int v), some (.ref (52 + 2 * e + 3))]) (st' := [.int v, .int (nI n), .ref (52 + 2 * e + 3)]) (h' := mk M T) (fun _ => rfl) ?_
  refine R_callD (i := .invokevirtual 268) (kd := 0) (y := M_X4_keep) (as := [.ref (52 + 2 * e + 3), .int (nI n), .int v]) (r := []) (L0 := [some (.ref (52 + 2 * e + 3)), some (.int (nI n)), some (.int v)]) (v := some (.int 1)) (h' := mk (up M (53 + 2 * e) n (v &&& 65535)) T) (pc' := 39) (st' := [.int 1]) rfl rfl rfl rfl (xPre_c (sh_sheet (by omega)) rfl rfl rfl rfl) rfl (c_keep_16 he hz z24 hb hn) ?_
  refine R_ret 4 (pcr := 51) (v := some (.int 1)) (h' := mk (up M (53 + 2 * e) n (v &&& 65535)) T) (fun _ => rfl) ?_
  exact ⟨rfl, rfl⟩
set_option maxRecDepth 100000 in
set_option maxHeartbeats 4000000 in
theorem m_put_16 {ro : xRO} {d : Nat} {M : xM} {T : Nat} {e : Nat} (he : e < 4) {z : Nat} (hz : M 66 e = nI z) (z24 : z ≤ 24) (hb : M 65 e = nI 16) {n : Nat} (hn : n < z) {v : Int32} : Rn ro (d + 90) M_X8_put 0 [some (.ref 64), some (.int (nI e)), some (.int (nI n)), some (.int v), none] [] (mk M T) (fun r h => r = some (.int 1) ∧ h = mk (up M 67 (24 * e + n) (v.toInt16.toInt32)) T) := by
  refine R_go 2 (pc' := 2) (L' := [some (.ref 64), some (.int (nI e)), some (.int (nI n)), some (.int v), none]) (st' := [.int (nI e), .ref 64]) (h' := mk M T) (fun _ => rfl) ?_
  refine R_callD (i := .invokevirtual 249) (kd := 0) (y := M_X8_notThere) (as := [.ref 64, .int (nI e)]) (r := []) (L0 := [some (.ref 64), some (.int (nI e))]) (v := some (.int 0)) (h' := mk M T) (pc' := 5) (st' := [.int 0]) rfl rfl rfl rfl rfl rfl (m_notThere_i he hb (b := 16) (by omega) (by omega)) ?_
  refine R_go 8 (pc' := 19) (L' := [some (.ref 64), some (.int (nI e)), some (.int (nI n)), some (.int v), some (.int 0)]) (st' := [.int (nI e), .ref 69, .int 0, .int (nI n)]) (h' := mk M T) (fun _ => rfl) ?_
  refine R_iald (c := 66) (n := 4) (j := e) rfl rfl (by omega) (by decide) ?_
  refine R_top (y := nI z) (hz) ?_
  refine R_go 2 (pc' := 22) (L' := [some (.ref 64), some (.int (nI e)), some (.int (nI n)), some (.int v), some (.int 0)]) (st' := [.int ((nI z) - 1), .int 0, .int (nI n)]) (h' := mk M T) (fun _ => rfl) ?_
  refine R_call2 (i := .invokestatic 53) (kd := 1) (y := M_X8_in) (as := [.int (nI n), .int 0, .int ((nI z) - 1)]) (r := []) (L0 := [some (.int (nI n)), some (.int 0), some (.int ((nI z) - 1))]) (v1 := some (.int 1)) (v2 := some (.int 0)) (h1' := mk M T) (h2' := mk M T) (pc' := 25) (st1 := [.int 1]) (st2 := [.int 0]) rfl rfl rfl rfl rfl rfl (m_in) (fun g1 => ?_) (fun g1 => ?_)
  · refine R_go 10 (pc' := 57) (L' := [some (.ref 64), some (.int (nI e)), some (.int (nI n)), some (.int v), some (.int 0)]) (st' := [.int (24 * nI e), .ref 70]) (h' := mk M T) (fun _ => rfl) ?_
    refine R_top (pk_mul 24 e) ?_
    refine R_go 2 (pc' := 59) (L' := [some (.ref 64), some (.int (nI e)), some (.int (nI n)), some (.int v), some (.int 0)]) (st' := [.int (nI (24 * e) + nI n), .ref 70]) (h' := mk M T) (fun _ => rfl) ?_
    refine R_top (nI_add (24 * e) n) ?_
    refine R_go 3 (pc' := 64) (L' := [some (.ref 64), some (.int (nI e)), some (.int (nI n)), some (.int v), some (.int 0)]) (st' := [.int (nI e), .ref 68, .int (nI ((24 * e) + n)), .ref 70]) (h' := mk M T) (fun _ => rfl) ?_
    refine R_iald (c := 65) (n := 4) (j := e) rfl rfl (by omega) (by decide) ?_
    refine R_top (y := 16) (hb) ?_
    refine R_go 5 (pc' := 80) (L' := [some (.ref 64), some (.int (nI e)), some (.int (nI n)), some (.int v), some (.int 0)]) (st' := [.int (nI e), .ref 68, .int (nI ((24 * e) + n)), .ref 70]) (h' := mk M T) (fun _ => rfl) ?_
    refine R_iald (c := 65) (n := 4) (j := e) rfl rfl (by omega) (by decide) ?_
    refine R_top (y := 16) (hb) ?_
    refine R_go 5 (pc' := 92) (L' := [some (.ref 64), some (.int (nI e)), some (.int (nI n)), some (.int v), some (.int 0)]) (st' := [.int v.toInt16.toInt32, .int (nI ((24 * e) + n)), .ref 70]) (h' := mk M T) (fun _ => rfl) ?_
    refine R_iast (c := 67) (n := 96) (j := (24 * e) + n) rfl rfl (by omega) (by decide) ?_
    refine R_ret 2 (pcr := 94) (v := some (.int 1)) (h' := mk (up M 67 ((24 * e) + n) v.toInt16.toInt32) T) (fun _ => rfl) ?_
    exact ⟨rfl, rfl⟩
  · exact absurd ((in_lt (by omega)).mpr ⟨nI_pos' (by omega), nI_lt hn (by omega)⟩) g1
set_option maxRecDepth 100000 in
set_option maxHeartbeats 4000000 in
theorem c_keep_32 {ro : xRO} {d : Nat} {M : xM} {T : Nat} {e : Nat} (he : e < 4) {z : Nat} (hz : M (52 + 2 * e) 2 = nI z) (z24 : z ≤ 24) (hb : M (52 + 2 * e) 1 = nI 32) {n : Nat} (hn : n < z) {v : Int32} : Rn ro d M_X4_keep 0 [some (.ref (52 + 2 * e + 3)), some (.int (nI n)), some (.int v)] [] (mk M T) (fun r h => r = some (.int 1) ∧ h = mk (up M (53 + 2 * e) n (v)) T) := by
  refine R_if 2 (c := (nI n) < 0) (t := 21) (f := 4) (L' := [some (.ref (52 + 2 * e + 3)), some (.int (nI n)), some (.int v)]) (st' := []) (h' := mk M T) (fun _ => rfl) (fun g1 => ?_) (fun g1 => ?_)
  · replace g1 : n < 0 := (nI_ltI (a := n) (b := 0) (by omega) (by omega)).mp g1
    omega
  · replace g1 : ¬ n < 0 := fun q => g1 ((nI_ltI (a := n) (b := 0) (by omega) (by omega)).mpr q)
    refine R_go 2 (pc' := 6) (L' := [some (.ref (52 + 2 * e + 3)), some (.int (nI n)), some (.int v)]) (st' := [.ref (52 + 2 * e + 3), .int (nI n)]) (h' := mk M T) (fun _ => rfl) ?_
    refine R_getI (i := 15) (j := 2) (c := 52 + 2 * e) (sh_sheet (by omega)) rfl rfl rfl ?_
    refine R_top (y := nI z) (hz) ?_
    refine R_if 1 (c := (nI z) ≤ (nI n)) (t := 21) (f := 12) (L' := [some (.ref (52 + 2 * e + 3)), some (.int (nI n)), some (.int v)]) (st' := []) (h' := mk M T) (fun _ => rfl) (fun g2 => ?_) (fun g2 => ?_)
    · replace g2 : z ≤ n := (nI_leI (a := z) (b := n) (by omega) (by omega)).mp g2
      omega
    · replace g2 : ¬ z ≤ n := fun q => g2 ((nI_leI (a := z) (b := n) (by omega) (by omega)).mpr q)
      refine R_go 2 (pc' := 14) (L' := [some (.ref (52 + 2 * e + 3)), some (.int (nI n)), some (.int v)]) (st' := [.ref (52 + 2 * e + 3), .int (nI n)]) (h' := mk M T) (fun _ => rfl) ?_
      refine R_getR (i := 9) (j := 0) (c := 52 + 2 * e) (sh_sheet (by omega)) rfl rfl rfl ?_
      refine R_alen (c := 53 + 2 * e) (sh_nums (by omega)) rfl ?_
      refine R_if 1 (c := (nI n) < 24) (t := 23) (f := 21) (L' := [some (.ref (52 + 2 * e + 3)), some (.int (nI n)), some (.int v)]) (st' := []) (h' := mk M T) (fun _ => rfl) (fun g3 => ?_) (fun g3 => ?_)
      · replace g3 : n < 24 := (nI_ltI (a := n) (b := 24) (by omega) (by omega)).mp g3
        refine R_go 1 (pc' := 24) (L' := [some (.ref (52 + 2 * e + 3)), some (.int (nI n)), some (.int v)]) (st' := [.ref (52 + 2 * e + 3)]) (h' := mk M T) (fun _ => rfl) ?_
        refine R_getI (i := 19) (j := 1) (c := 52 + 2 * e) (sh_sheet (by omega)) rfl rfl rfl ?_
        refine R_top (y := 32) (hb) ?_
        refine R_go 3 (pc' := 47) (L' := [some (.ref (52 + 2 * e + 3)), some (.int (nI n)), some (.int v)]) (st' := [.ref (52 + 2 * e + 3)]) (h' := mk M T) (fun _ => rfl) ?_
        refine R_getR (i := 9) (j := 0) (c := 52 + 2 * e) (sh_sheet (by omega)) rfl rfl rfl ?_
        refine R_go 2 (pc' := 52) (L' := [some (.ref (52 + 2 * e + 3)), some (.int (nI n)), some (.int v)]) (st' := [.ref (52 + 2 * e + 3), .int (nI n), .ref (53 + 2 * e + 3)]) (h' := mk M T) (fun _ => rfl) ?_
        refine R_getI (i := 19) (j := 1) (c := 52 + 2 * e) (sh_sheet (by omega)) rfl rfl rfl ?_
        refine R_top (y := 32) (hb) ?_
        refine R_go 3 (pc' := 68) (L' := [some (.ref (52 + 2 * e + 3)), some (.int (nI n)), some (.int v)]) (st' := [.int v, .int (nI n), .ref (53 + 2 * e + 3)]) (h' := mk M T) (fun _ => rfl) ?_
        refine R_iast (c := 53 + 2 * e) (n := 24) (j := n) (sh_nums (by omega)) rfl (by omega) (by decide) ?_
        refine R_ret 2 (pcr := 70) (v := some (.int 1)) (h' := mk (up M (53 + 2 * e) n v) T) (fun _ => rfl) ?_
        exact ⟨rfl, rfl⟩
      · replace g3 : ¬ n < 24 := fun q => g3 ((nI_ltI (a := n) (b := 24) (by omega) (by omega)).mpr q)
        omega
set_option maxRecDepth 100000 in
set_option maxHeartbeats 4000000 in
theorem x_put_32 {ro : xRO} {d : Nat} {M : xM} {T : Nat} {e : Nat} (he : e < 4) {z : Nat} (hz : M (52 + 2 * e) 2 = nI z) (z24 : z ≤ 24) (hb : M (52 + 2 * e) 1 = nI 32) {n : Nat} (hn : n < z) {v : Int32} : Rn ro (d + 90) M_X7_put 0 [some (.ref 3), some (.int (nI e)), some (.int (nI n)), some (.int v), none] [] (mk M T) (fun r h => r = some (.int 1) ∧ h = mk (up M (53 + 2 * e) n (v)) T) := by
  refine R_go 2 (pc' := 2) (L' := [some (.ref 3), some (.int (nI e)), some (.int (nI n)), some (.int v), none]) (st' := [.int (nI e), .ref 3]) (h' := mk M T) (fun _ => rfl) ?_
  refine R_callD (i := .invokevirtual 180) (kd := 0) (y := M_X7_sheetAt) (as := [.ref 3, .int (nI e)]) (r := []) (L0 := [some (.ref 3), some (.int (nI e))]) (v := some (.ref (52 + 2 * e + 3))) (h' := mk M T) (pc' := 5) (st' := [.ref (52 + 2 * e + 3)]) rfl rfl rfl rfl rfl rfl (c_sheetAt_in (n := e) (by omega)) ?_
  refine R_go 4 (pc' := 20) (L' := [some (.ref 3), some (.int (nI e)), some (.int (nI n)), some (.int v), some (.ref (52 + 2 * e + 3))]) (st' := [.ref (52 + 2 * e + 3)]) (h' := mk M T) (fun _ => rfl) ?_
  refine R_getI (i := 237) (j := 1) (c := 52 + 2 * e) (sh_sheet (by omega)) rfl rfl rfl ?_
  refine R_top (y := 32) (hb) ?_
  refine R_go 4 (pc' := 36) (L' := [some (.ref 3), some (.int (nI e)), some (.int (nI n)), some (.int v), some (.ref (52 + 2 * e + 3))]) (st' := [.int v, .int (nI n), .ref (52 + 2 * e + 3)]) (h' := mk M T) (fun _ => rfl) ?_
  refine R_callD (i := .invokevirtual 268) (kd := 0) (y := M_X4_keep) (as := [.ref (52 + 2 * e + 3), .int (nI n), .int v]) (r := []) (L0 := [some (.ref (52 + 2 * e + 3)), some (.int (nI n)), some (.int v)]) (v := some (.int 1)) (h' := mk (up M (53 + 2 * e) n (v)) T) (pc' := 39) (st' := [.int 1]) rfl rfl rfl rfl (xPre_c (sh_sheet (by omega)) rfl rfl rfl rfl) rfl (c_keep_32 he hz z24 hb hn) ?_
  refine R_ret 4 (pcr := 51) (v := some (.int 1)) (h' := mk (up M (53 + 2 * e) n (v)) T) (fun _ => rfl) ?_
  exact ⟨rfl, rfl⟩
set_option maxRecDepth 100000 in
set_option maxHeartbeats 4000000 in
theorem m_put_32 {ro : xRO} {d : Nat} {M : xM} {T : Nat} {e : Nat} (he : e < 4) {z : Nat} (hz : M 66 e = nI z) (z24 : z ≤ 24) (hb : M 65 e = nI 32) {n : Nat} (hn : n < z) {v : Int32} : Rn ro (d + 90) M_X8_put 0 [some (.ref 64), some (.int (nI e)), some (.int (nI n)), some (.int v), none] [] (mk M T) (fun r h => r = some (.int 1) ∧ h = mk (up M 67 (24 * e + n) (v)) T) := by
  refine R_go 2 (pc' := 2) (L' := [some (.ref 64), some (.int (nI e)), some (.int (nI n)), some (.int v), none]) (st' := [.int (nI e), .ref 64]) (h' := mk M T) (fun _ => rfl) ?_
  refine R_callD (i := .invokevirtual 249) (kd := 0) (y := M_X8_notThere) (as := [.ref 64, .int (nI e)]) (r := []) (L0 := [some (.ref 64), some (.int (nI e))]) (v := some (.int 0)) (h' := mk M T) (pc' := 5) (st' := [.int 0]) rfl rfl rfl rfl rfl rfl (m_notThere_i he hb (b := 32) (by omega) (by omega)) ?_
  refine R_go 8 (pc' := 19) (L' := [some (.ref 64), some (.int (nI e)), some (.int (nI n)), some (.int v), some (.int 0)]) (st' := [.int (nI e), .ref 69, .int 0, .int (nI n)]) (h' := mk M T) (fun _ => rfl) ?_
  refine R_iald (c := 66) (n := 4) (j := e) rfl rfl (by omega) (by decide) ?_
  refine R_top (y := nI z) (hz) ?_
  refine R_go 2 (pc' := 22) (L' := [some (.ref 64), some (.int (nI e)), some (.int (nI n)), some (.int v), some (.int 0)]) (st' := [.int ((nI z) - 1), .int 0, .int (nI n)]) (h' := mk M T) (fun _ => rfl) ?_
  refine R_call2 (i := .invokestatic 53) (kd := 1) (y := M_X8_in) (as := [.int (nI n), .int 0, .int ((nI z) - 1)]) (r := []) (L0 := [some (.int (nI n)), some (.int 0), some (.int ((nI z) - 1))]) (v1 := some (.int 1)) (v2 := some (.int 0)) (h1' := mk M T) (h2' := mk M T) (pc' := 25) (st1 := [.int 1]) (st2 := [.int 0]) rfl rfl rfl rfl rfl rfl (m_in) (fun g1 => ?_) (fun g1 => ?_)
  · refine R_go 10 (pc' := 57) (L' := [some (.ref 64), some (.int (nI e)), some (.int (nI n)), some (.int v), some (.int 0)]) (st' := [.int (24 * nI e), .ref 70]) (h' := mk M T) (fun _ => rfl) ?_
    refine R_top (pk_mul 24 e) ?_
    refine R_go 2 (pc' := 59) (L' := [some (.ref 64), some (.int (nI e)), some (.int (nI n)), some (.int v), some (.int 0)]) (st' := [.int (nI (24 * e) + nI n), .ref 70]) (h' := mk M T) (fun _ => rfl) ?_
    refine R_top (nI_add (24 * e) n) ?_
    refine R_go 3 (pc' := 64) (L' := [some (.ref 64), some (.int (nI e)), some (.int (nI n)), some (.int v), some (.int 0)]) (st' := [.int (nI e), .ref 68, .int (nI ((24 * e) + n)), .ref 70]) (h' := mk M T) (fun _ => rfl) ?_
    refine R_iald (c := 65) (n := 4) (j := e) rfl rfl (by omega) (by decide) ?_
    refine R_top (y := 32) (hb) ?_
    refine R_go 5 (pc' := 80) (L' := [some (.ref 64), some (.int (nI e)), some (.int (nI n)), some (.int v), some (.int 0)]) (st' := [.int (nI e), .ref 68, .int (nI ((24 * e) + n)), .ref 70]) (h' := mk M T) (fun _ => rfl) ?_
    refine R_iald (c := 65) (n := 4) (j := e) rfl rfl (by omega) (by decide) ?_
    refine R_top (y := 32) (hb) ?_
    refine R_go 3 (pc' := 92) (L' := [some (.ref 64), some (.int (nI e)), some (.int (nI n)), some (.int v), some (.int 0)]) (st' := [.int v, .int (nI ((24 * e) + n)), .ref 70]) (h' := mk M T) (fun _ => rfl) ?_
    refine R_iast (c := 67) (n := 96) (j := (24 * e) + n) rfl rfl (by omega) (by decide) ?_
    refine R_ret 2 (pcr := 94) (v := some (.int 1)) (h' := mk (up M 67 ((24 * e) + n) v) T) (fun _ => rfl) ?_
    exact ⟨rfl, rfl⟩
  · exact absurd ((in_lt (by omega)).mpr ⟨nI_pos' (by omega), nI_lt hn (by omega)⟩) g1
set_option maxRecDepth 100000 in
set_option maxHeartbeats 4000000 in
theorem c_keep_o {ro : xRO} {d : Nat} {M : xM} {T : Nat} {e : Nat} (he : e < 4) {z : Nat} (hz : M (52 + 2 * e) 2 = nI z) (z24 : z ≤ 24) {i : Int32} (hi : ¬ (0 ≤ i ∧ i < nI z)) {v : Int32} : Rn ro d M_X4_keep 0 [some (.ref (52 + 2 * e + 3)), some (.int i), some (.int v)] [] (mk M T) (fun r h => r = some (.int 0) ∧ h = mk M T) := by
  refine R_if 2 (c := i < 0) (t := 21) (f := 4) (L' := [some (.ref (52 + 2 * e + 3)), some (.int i), some (.int v)]) (st' := []) (h' := mk M T) (fun _ => rfl) (fun g1 => ?_) (fun g1 => ?_)
  · refine R_ret 2 (pcr := 22) (v := some (.int 0)) (h' := mk M T) (fun _ => rfl) ?_
    exact ⟨rfl, rfl⟩
  · refine R_go 2 (pc' := 6) (L' := [some (.ref (52 + 2 * e + 3)), some (.int i), some (.int v)]) (st' := [.ref (52 + 2 * e + 3), .int i]) (h' := mk M T) (fun _ => rfl) ?_
    refine R_getI (i := 15) (j := 2) (c := 52 + 2 * e) (sh_sheet (by omega)) rfl rfl rfl ?_
    refine R_top (y := nI z) (hz) ?_
    refine R_if 1 (c := (nI z) ≤ i) (t := 21) (f := 12) (L' := [some (.ref (52 + 2 * e + 3)), some (.int i), some (.int v)]) (st' := []) (h' := mk M T) (fun _ => rfl) (fun g2 => ?_) (fun g2 => ?_)
    · refine R_ret 2 (pcr := 22) (v := some (.int 0)) (h' := mk M T) (fun _ => rfl) ?_
      exact ⟨rfl, rfl⟩
    · refine R_go 2 (pc' := 14) (L' := [some (.ref (52 + 2 * e + 3)), some (.int i), some (.int v)]) (st' := [.ref (52 + 2 * e + 3), .int i]) (h' := mk M T) (fun _ => rfl) ?_
      refine R_getR (i := 9) (j := 0) (c := 52 + 2 * e) (sh_sheet (by omega)) rfl rfl rfl ?_
      refine R_alen (c := 53 + 2 * e) (sh_nums (by omega)) rfl ?_
      refine R_if 1 (c := i < 24) (t := 23) (f := 21) (L' := [some (.ref (52 + 2 * e + 3)), some (.int i), some (.int v)]) (st' := []) (h' := mk M T) (fun _ => rfl) (fun g3 => ?_) (fun g3 => ?_)
      · exact absurd ⟨k2_le g1, k2_lt g2⟩ hi
      · refine R_ret 2 (pcr := 22) (v := some (.int 0)) (h' := mk M T) (fun _ => rfl) ?_
        exact ⟨rfl, rfl⟩
set_option maxRecDepth 100000 in
set_option maxHeartbeats 4000000 in
theorem x_put_r {ro : xRO} {d : Nat} {M : xM} {T : Nat} {e : Nat} (he : e < 4) {z : Nat} (hz : M (52 + 2 * e) 2 = nI z) (z24 : z ≤ 24) {b : Nat} (hb : M (52 + 2 * e) 1 = nI b) (b32 : b ≤ 32) (b0 : ¬ b = 0) {i : Int32} (hi : ¬ (0 ≤ i ∧ i < nI z)) {v : Int32} : Rn ro (d + 90) M_X7_put 0 [some (.ref 3), some (.int (nI e)), some (.int i), some (.int v), none] [] (mk M T) (fun r h => r = some (.int (-1000000001)) ∧ h = mk (up M 60 1 (M 60 1 + 1)) T) := by
  refine R_go 2 (pc' := 2) (L' := [some (.ref 3), some (.int (nI e)), some (.int i), some (.int v), none]) (st' := [.int (nI e), .ref 3]) (h' := mk M T) (fun _ => rfl) ?_
  refine R_callD (i := .invokevirtual 180) (kd := 0) (y := M_X7_sheetAt) (as := [.ref 3, .int (nI e)]) (r := []) (L0 := [some (.ref 3), some (.int (nI e))]) (v := some (.ref (52 + 2 * e + 3))) (h' := mk M T) (pc' := 5) (st' := [.ref (52 + 2 * e + 3)]) rfl rfl rfl rfl rfl rfl (c_sheetAt_in (n := e) (by omega)) ?_
  refine R_go 4 (pc' := 20) (L' := [some (.ref 3), some (.int (nI e)), some (.int i), some (.int v), some (.ref (52 + 2 * e + 3))]) (st' := [.ref (52 + 2 * e + 3)]) (h' := mk M T) (fun _ => rfl) ?_
  refine R_getI (i := 237) (j := 1) (c := 52 + 2 * e) (sh_sheet (by omega)) rfl rfl rfl ?_
  refine R_top (y := nI b) (hb) ?_
  refine R_ifn 1 (c := (nI b) = 0) (t := 32) (f := 26) (L' := [some (.ref 3), some (.int (nI e)), some (.int i), some (.int v), some (.ref (52 + 2 * e + 3))]) (st' := []) (h' := mk M T) (fun _ => rfl) (fun g1 => ?_) (fun g1 => ?_)
  · replace g1 : ¬ b = 0 := fun q => g1 ((nI_eq (a := b) (b := 0) (by omega) (by omega)).mpr q)
    refine R_go 3 (pc' := 36) (L' := [some (.ref 3), some (.int (nI e)), some (.int i), some (.int v), some (.ref (52 + 2 * e + 3))]) (st' := [.int v, .int i, .ref (52 + 2 * e + 3)]) (h' := mk M T) (fun _ => rfl) ?_
    refine R_callD (i := .invokevirtual 268) (kd := 0) (y := M_X4_keep) (as := [.ref (52 + 2 * e + 3), .int i, .int v]) (r := []) (L0 := [some (.ref (52 + 2 * e + 3)), some (.int i), some (.int v)]) (v := some (.int 0)) (h' := mk M T) (pc' := 39) (st' := [.int 0]) rfl rfl rfl rfl (xPre_c (sh_sheet (by omega)) rfl rfl rfl rfl) rfl (c_keep_o he hz z24 hi) ?_
    refine R_go 3 (pc' := 48) (L' := [some (.ref 3), some (.int (nI e)), some (.int i), some (.int v), some (.ref (52 + 2 * e + 3))]) (st' := [.int 1, .ref 3]) (h' := mk M T) (fun _ => rfl) ?_
    refine R_callD (i := .invokevirtual 75) (kd := 0) (y := M_X7_error) (as := [.ref 3, .int 1]) (r := []) (L0 := [some (.ref 3), some (.int 1)]) (v := some (.int (-1000000001))) (h' := mk (up M 60 1 (M 60 1 + 1)) T) (pc' := 51) (st' := [.int (-1000000001)]) rfl rfl rfl rfl rfl rfl (c_error_1) ?_
    refine R_ret 1 (pcr := 51) (v := some (.int (-1000000001))) (h' := mk (up M 60 1 (M 60 1 + 1)) T) (fun _ => rfl) ?_
    exact ⟨rfl, rfl⟩
  · replace g1 : b = 0 := (nI_eq (a := b) (b := 0) (by omega) (by omega)).mp g1
    omega
set_option maxRecDepth 100000 in
set_option maxHeartbeats 4000000 in
theorem m_put_r {ro : xRO} {d : Nat} {M : xM} {T : Nat} {e : Nat} (he : e < 4) {z : Nat} (hz : M 66 e = nI z) (z24 : z ≤ 24) {b : Nat} (hb : M 65 e = nI b) (b32 : b ≤ 32) (b0 : ¬ b = 0) {i : Int32} (hi : ¬ (0 ≤ i ∧ i < nI z)) {v : Int32} : Rn ro (d + 90) M_X8_put 0 [some (.ref 64), some (.int (nI e)), some (.int i), some (.int v), none] [] (mk M T) (fun r h => r = some (.int (-1000000001)) ∧ h = mk (up M 64 1 (M 64 1 + 1)) T) := by
  refine R_go 2 (pc' := 2) (L' := [some (.ref 64), some (.int (nI e)), some (.int i), some (.int v), none]) (st' := [.int (nI e), .ref 64]) (h' := mk M T) (fun _ => rfl) ?_
  refine R_callD (i := .invokevirtual 249) (kd := 0) (y := M_X8_notThere) (as := [.ref 64, .int (nI e)]) (r := []) (L0 := [some (.ref 64), some (.int (nI e))]) (v := some (.int 0)) (h' := mk M T) (pc' := 5) (st' := [.int 0]) rfl rfl rfl rfl rfl rfl (m_notThere_i he hb b32 b0) ?_
  refine R_go 8 (pc' := 19) (L' := [some (.ref 64), some (.int (nI e)), some (.int i), some (.int v), some (.int 0)]) (st' := [.int (nI e), .ref 69, .int 0, .int i]) (h' := mk M T) (fun _ => rfl) ?_
  refine R_iald (c := 66) (n := 4) (j := e) rfl rfl (by omega) (by decide) ?_
  refine R_top (y := nI z) (hz) ?_
  refine R_go 2 (pc' := 22) (L' := [some (.ref 64), some (.int (nI e)), some (.int i), some (.int v), some (.int 0)]) (st' := [.int ((nI z) - 1), .int 0, .int i]) (h' := mk M T) (fun _ => rfl) ?_
  refine R_call2 (i := .invokestatic 53) (kd := 1) (y := M_X8_in) (as := [.int i, .int 0, .int ((nI z) - 1)]) (r := []) (L0 := [some (.int i), some (.int 0), some (.int ((nI z) - 1))]) (v1 := some (.int 1)) (v2 := some (.int 0)) (h1' := mk M T) (h2' := mk M T) (pc' := 25) (st1 := [.int 1]) (st2 := [.int 0]) rfl rfl rfl rfl rfl rfl (m_in) (fun g1 => ?_) (fun g1 => ?_)
  · exact absurd g1 (fun q => hi ((in_lt (by omega)).mp q))
  · refine R_go 8 (pc' := 45) (L' := [some (.ref 64), some (.int (nI e)), some (.int i), some (.int v), some (.int (-1000000001))]) (st' := [.int (-1000000001), .ref 64]) (h' := mk M T) (fun _ => rfl) ?_
    refine R_callD (i := .invokevirtual 81) (kd := 0) (y := M_X8_error) (as := [.ref 64, .int (-1000000001)]) (r := []) (L0 := [some (.ref 64), some (.int (-1000000001))]) (v := some (.int (-1000000001))) (h' := mk (up M 64 1 (M 64 1 + 1)) T) (pc' := 48) (st' := [.int (-1000000001)]) rfl rfl rfl rfl rfl rfl (m_error_1) ?_
    refine R_ret 1 (pcr := 48) (v := some (.int (-1000000001))) (h' := mk (up M 64 1 (M 64 1 + 1)) T) (fun _ => rfl) ?_
    exact ⟨rfl, rfl⟩
set_option maxHeartbeats 4000000 in
theorem op_put {ro : xRO} {M : xM} {T : Nat} (h : Rel M) {i v w : Int32} : OpOK ro M_X7_put M_X8_put [some (.ref 3), some (.int i), some (.int v), some (.int w), none] [some (.ref 64), some (.int i), some (.int v), some (.int w), none] M T := by
  obtain ⟨P, H, h8, h6, pm, hm, px, hx, a, b1, b2, b3, b4, c2, c3, c4, c5⟩ := rel_all h
  rcases nI_cases i 4 (by omega) with ⟨e, he, rfl⟩ | hi
  · obtain ⟨b, z, bx, bm, b5, zx, zm, z24, bz, nr⟩ := rel_sh h he
    have b32 : b ≤ 32 := by omega
    by_cases b0 : b = 0
    · subst b0
      exact OpOK.of (fun d => x_put_0 he bx) (fun d => m_put_0 (M := up M 60 2 (M 60 2 + 1)) he bm) rfl (h.err 2 (by omega))
    · have hq : ∀ i v, i < 24 → v < 100 → (M (53 + 2 * e) i = nI v ↔ M 67 (24 * e + i) = nI v) := fun i v hi hv => numR_v (nr i hi) (by omega) hv
      rcases nI_cases v z (by omega) with ⟨n, hn, rfl⟩ | hi
      · have hn24 : n < 24 := by omega
        have hw : ∀ c m, numR (M 65 e) c m → Rel (up (up M (53 + 2 * e) n c) 67 (24 * e + n) m) := fun c m q => h.put he hn24 q
        rcases (show b = 8 ∨ b = 16 ∨ b = 32 by omega) with rfl | rfl | rfl
        · exact OpOK.of (fun d => x_put_8 he zx z24 bx hn) (fun d => m_put_8 he ((congrFun (up_ne (by omega)) e).trans zm) z24 ((congrFun (up_ne (by omega)) e).trans bm) hn) rfl (hw _ _ (by rw [bm]; exact numR_8 _))
        · exact OpOK.of (fun d => x_put_16 he zx z24 bx hn) (fun d => m_put_16 he ((congrFun (up_ne (by omega)) e).trans zm) z24 ((congrFun (up_ne (by omega)) e).trans bm) hn) rfl (hw _ _ (by rw [bm]; exact numR_16 _))
        · exact OpOK.of (fun d => x_put_32 he zx z24 bx hn) (fun d => m_put_32 he ((congrFun (up_ne (by omega)) e).trans zm) z24 ((congrFun (up_ne (by omega)) e).trans bm) hn) rfl (hw _ _ (by rw [bm]; exact numR_32 _))
      · exact OpOK.of (fun d => x_put_r he zx z24 bx b32 b0 hi) (fun d => m_put_r (M := up M 60 1 (M 60 1 + 1)) he zm z24 bm b32 b0 hi) rfl (h.err 1 (by omega))
  · exact OpOK.of (fun d => x_put_o hi) (fun d => m_put_o (M := up M 60 1 (M 60 1 + 1)) hi) rfl (h.err 1 (by omega))
