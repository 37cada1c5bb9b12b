/-! OPERATION feed -/
def byB (w : Int64) (i : Nat) : Int32 := (w.toUInt64 >>> ((Int32.toInt64 (nI (8 * i))).toUInt64 &&& Int64.toUInt64 63)).toInt64.toInt32 &&& 255
def byM (w : Int64) (i : Nat) : Int32 := ((w >>> (Int32.toInt64 (nI (8 * i)) &&& 63)) &&& 255).toInt32
theorem by_bv (w : BitVec 64) (s : Nat) (hs : s ≤ 56) : (w >>> s).setWidth 32 &&& 255#32 = ((w.sshiftRight s) &&& 255#64).setWidth 32 := by
  apply BitVec.eq_of_getElem_eq
  intro i hi
  by_cases q : i < 8
  · have h1 : (255#32)[i] = true := by rw [BitVec.getElem_eq_testBit_toNat]; exact (by decide : ∀ i : Fin 8, Nat.testBit 255 i.val = true) ⟨i, q⟩
    have h2 : (255#64)[i] = true := by rw [BitVec.getElem_eq_testBit_toNat]; exact (by decide : ∀ i : Fin 8, Nat.testBit 255 i.val = true) ⟨i, q⟩
    simp only [BitVec.getElem_and, BitVec.getElem_setWidth, h1, BitVec.getLsbD_and, BitVec.getLsbD_ushiftRight, BitVec.getLsbD_sshiftRight]
    have h3 : BitVec.getLsbD (255#64) i = true := by rw [BitVec.getLsbD_eq_getElem (by omega)]; exact h2
    rw [h3]
    simp [show s + i < 64 by omega, show ¬ 64 ≤ i by omega]
  · have h1 : (255#32)[i] = false := by rw [BitVec.getElem_eq_testBit_toNat]; exact Nat.testBit_lt_two_pow (Nat.lt_of_lt_of_le (by decide : 255 < 2 ^ 8) (Nat.pow_le_pow_right (by decide) (by omega)))
    have h3 : BitVec.getLsbD (255#64) i = false := by rw [BitVec.getLsbD_eq_getElem (by omega), BitVec.getElem_eq_testBit_toNat]; exact Nat.testBit_lt_two_pow (Nat.lt_of_lt_of_le (by decide : 255 < 2 ^ 8) (Nat.pow_le_pow_right (by decide) (by omega)))
    simp only [BitVec.getElem_and, BitVec.getElem_setWidth, h1, BitVec.getLsbD_and, h3, Bool.and_false]
theorem by_eq (w : Int64) {i : Nat} (hi : i < 8) : byM w i = byB w i := by
  unfold byM byB
  apply Int32.toBitVec_inj.mp
  have key := by_bv w.toBitVec (8 * i) (by omega)
  have e1 : (((nI (8 * i)).toInt64 &&& 63).toBitVec.smod 64).toNat = 8 * i := (by decide : ∀ i : Fin 8, (((nI (8 * i.val)).toInt64 &&& 63).toBitVec.smod 64).toNat = 8 * i.val) ⟨i, hi⟩
  have e2 : (((nI (8 * i)).toInt64.toUInt64 &&& Int64.toUInt64 63).toBitVec % 64).toNat = 8 * i := (by decide : ∀ i : Fin 8, (((nI (8 * i.val)).toInt64.toUInt64 &&& Int64.toUInt64 63).toBitVec % 64).toNat = 8 * i.val) ⟨i, hi⟩
  show (((w >>> ((nI (8 * i)).toInt64 &&& 63)).toBitVec &&& 255#64).signExtend 32) = ((w.toUInt64 >>> ((nI (8 * i)).toInt64.toUInt64 &&& Int64.toUInt64 63)).toBitVec.signExtend 32) &&& 255#32
  rw [Int64.toBitVec_shiftRight, UInt64.toBitVec_shiftRight, BitVec.signExtend_eq_setWidth_of_le _ (by omega), BitVec.signExtend_eq_setWidth_of_le _ (by omega)]
  show ((w.toBitVec.sshiftRight (((nI (8 * i)).toInt64 &&& 63).toBitVec.smod 64).toNat) &&& 255#64).setWidth 32 = ((w.toBitVec >>> (((nI (8 * i)).toInt64.toUInt64 &&& Int64.toUInt64 63).toBitVec % 64).toNat).setWidth 32) &&& 255#32
  rw [e1, e2]
  exact key.symm
def fX (M : xM) (w : Int64) (TC : Nat) : Nat → xM
  | 0 => M
  | i + 1 => up (up (fX M w TC i) 12 (TC + i) (byB w i)) 1 8 (nI (TC + i + 1))
def fM (M : xM) (w : Int64) (TC : Nat) : Nat → xM
  | 0 => M
  | i + 1 => up (up (fM M w TC i) 62 (72 + (TC + i)) (byM w i)) 62 8 (nI (TC + i + 1))
theorem fX_tc {M : xM} {w : Int64} {TC : Nat} (h : M 1 8 = nI TC) : ∀ i, fX M w TC i 1 8 = nI (TC + i) := by
  intro i
  cases i with
  | zero => exact h
  | succ i => exact up_at
theorem fM_tc {M : xM} {w : Int64} {TC : Nat} (h : M 62 8 = nI TC) : ∀ i, fM M w TC i 62 8 = nI (TC + i) := by
  intro i
  cases i with
  | zero => exact h
  | succ i => exact up_at
theorem fX_ne {M : xM} {w : Int64} {TC c : Nat} (h1 : c ≠ 1) (h2 : c ≠ 12) : ∀ i, fX M w TC i c = M c := by
  intro i
  induction i with
  | zero => rfl
  | succ i ih => show up (up (fX M w TC i) 12 _ _) 1 8 _ c = _; rw [up_ne h1, up_ne h2, ih]
theorem fM_up {M : xM} {w : Int64} {TC c j : Nat} {v : Int32} (h1 : c ≠ 62) : ∀ i, fM (up M c j v) w TC i = up (fM M w TC i) c j v := by
  intro i
  induction i with
  | zero => rfl
  | succ i ih =>
    show up (up (fM (up M c j v) w TC i) 62 _ _) 62 8 _ = _
    rw [ih, up_comm h1, up_comm h1]
    rfl
theorem Rel.byte {M : xM} (h : Rel M) {TC : Nat} {b : Int32} (hT : M 62 8 = nI TC) (hT2 : TC < 60) : Rel (up (up (up (up M 12 TC b) 1 8 (nI (TC + 1))) 62 (72 + TC) b) 62 8 (nI (TC + 1))) := by
  obtain ⟨P, H, h8, h6, pm, hm, px, hx, a, b1, b2, b3, b4, c2, c3, c4, c5⟩ := rel_all h
  have iv : iN (nI (TC + 1)) 60 := ⟨TC + 1, by omega, rfl⟩
  refine h.now ?_ ?_ ?_ ?_ ?_ ?_ ?_ P H ?_ ?_ ?_ ?_ ?_
  · intro c x y; simp only [up_ne x, up_ne (show c ≠ 1 from fun q => y (by omega)), up_ne (show c ≠ 11 from fun q => y (by omega)), up_ne (show c ≠ 12 from fun q => y (by omega)), up_ne (show c ≠ 13 from fun q => y (by omega))]
  · intro j hj; simp only [up_rd]; grind
  · unfold hsA; simp only [up_rd]; grind
  · intro p j hp hj; have := b1 p j hp hj; simp only [up_rd]; grind
  · intro i hi; have := b2 i hi; have := c5 i hi; simp only [up_rd]; grind
  · intro i hi; have := b3 i hi; simp only [up_rd]; grind
  · intro i hi; have := b4 i hi; simp only [up_rd]; grind
  · unfold rwA; simp only [up_rd]; grind
  · unfold rwB; simp only [up_rd]; grind
  · intro p hp; have := c3 p hp; simp only [up_rd]; grind
  · intro p hp; obtain ⟨he, e1, e2⟩ := c4 p (by omega); exact ⟨he, by omega, by simp only [up_rd]; grind⟩
  · intro i hi; have := c5 i hi; have : iN 0 99999 := ⟨0, by omega, rfl⟩; simp only [up_rd]; grind
theorem rel_fd {M : xM} (h : Rel M) {w : Int64} {TC : Nat} (hT : M 62 8 = nI TC) : ∀ i, i ≤ 8 → TC + i ≤ 60 → Rel (fM (fX M w TC i) w TC i) := by
  intro i
  induction i with
  | zero => intro _ _; exact h
  | succ i ih =>
    intro h8 h60
    have z := (ih (by omega) (by omega)).byte (TC := TC + i) (b := byB w i) (fM_tc (by rw [fX_ne (by omega) (by omega)]; exact hT) i) (by omega)
    show Rel (up (up (fM (up (up (fX M w TC i) 12 (TC + i) (byB w i)) 1 8 (nI (TC + i + 1))) w TC i) 62 (72 + (TC + i)) (byM w i)) 62 8 (nI (TC + i + 1)))
    rw [fM_up (by omega), fM_up (by omega), by_eq w (by omega)]
    exact z
set_option maxRecDepth 100000 in
set_option maxHeartbeats 4000000 in
theorem x_feed_b {ro : xRO} {d : Nat} {M : xM} {T : Nat} {w : Int64} {v : Int32} (hv : ¬ (1 ≤ v ∧ v ≤ 8)) : Rn ro (d + 90) M_X7_feed 0 [some (.ref 3), some (.long w), none, some (.int v), none] [] (mk M T) (fun r h => r = some (.int (-1000000001)) ∧ h = mk (up M 60 1 (M 60 1 + 1)) T) := by
  refine R_go 3 (pc' := 4) (L' := [some (.ref 3), some (.long w), none, some (.int v), none]) (st' := [.int 8, .int 1, .int v]) (h' := mk M T) (fun _ => rfl) ?_
  refine R_call2 (i := .invokestatic 78) (kd := 1) (y := M_X7_within) (as := [.int v, .int 1, .int 8]) (r := []) (L0 := [some (.int v), some (.int 1), some (.int 8)]) (v1 := some (.int 1)) (v2 := some (.int 0)) (h1' := mk M T) (h2' := mk M T) (pc' := 7) (st1 := [.int 1]) (st2 := [.int 0]) rfl rfl rfl rfl rfl rfl (c_within) (fun g1 => ?_) (fun g1 => ?_)
  · exact absurd g1 (hv)
  · refine R_go 3 (pc' := 12) (L' := [some (.ref 3), some (.long w), none, some (.int v), none]) (st' := [.int 1, .ref 3]) (h' := mk M T) (fun _ => rfl) ?_
    refine R_callD (i := .invokevirtual 75) (kd := 0) (y := M_X7_error) (as := [.ref 3, .int 1]) (r := []) (L0 := [some (.ref 3), some (.int 1)]) (v := some (.int (-1000000001))) (h' := mk (up M 60 1 (M 60 1 + 1)) T) (pc' := 15) (st' := [.int (-1000000001)]) rfl rfl rfl rfl rfl rfl (c_error_1) ?_
    refine R_ret 1 (pcr := 15) (v := some (.int (-1000000001))) (h' := mk (up M 60 1 (M 60 1 + 1)) T) (fun _ => rfl) ?_
    exact ⟨rfl, rfl⟩
set_option maxRecDepth 100000 in
set_option maxHeartbeats 4000000 in
theorem m_feed_b {ro : xRO} {d : Nat} {M : xM} {T : Nat} {w : Int64} {v : Int32} (hv : ¬ (1 ≤ v ∧ v ≤ 8)) : Rn ro (d + 90) M_X8_feed 0 [some (.ref 64), some (.long w), none, some (.int v), none] [] (mk M T) (fun r h => r = some (.int (-1000000001)) ∧ h = mk (up M 64 1 (M 64 1 + 1)) T) := by
  refine R_go 3 (pc' := 4) (L' := [some (.ref 64), some (.long w), none, some (.int v), none]) (st' := [.int 8, .int 1, .int v]) (h' := mk M T) (fun _ => rfl) ?_
  refine R_call2 (i := .invokestatic 53) (kd := 1) (y := M_X8_in) (as := [.int v, .int 1, .int 8]) (r := []) (L0 := [some (.int v), some (.int 1), some (.int 8)]) (v1 := some (.int 1)) (v2 := some (.int 0)) (h1' := mk M T) (h2' := mk M T) (pc' := 7) (st1 := [.int 1]) (st2 := [.int 0]) rfl rfl rfl rfl rfl rfl (m_in) (fun g1 => ?_) (fun g1 => ?_)
  · exact absurd g1 (hv)
  · refine R_go 3 (pc' := 13) (L' := [some (.ref 64), some (.long w), none, some (.int v), none]) (st' := [.int (-1000000001), .ref 64]) (h' := mk M T) (fun _ => rfl) ?_
    refine R_callD (i := .invokevirtual 81) (kd := 0) (y := M_X8_error) (as := [.ref 64, .int (-1000000001)]) (r := []) (L0 := [some (.ref 64), some (.int (-1000000001))]) (v := some (.int (-1000000001))) (h' := mk (up M 64 1 (M 64 1 + 1)) T) (pc' := 16) (st' := [.int (-1000000001)]) rfl rfl rfl rfl rfl rfl (m_error_1) ?_
    refine R_ret 1 (pcr := 16) (v := some (.int (-1000000001))) (h' := mk (up M 64 1 (M 64 1 + 1)) T) (fun _ => rfl) ?_
    exact ⟨rfl, rfl⟩
set_option maxRecDepth 100000 in
set_option maxHeartbeats 4000000 in
theorem x_feed_f {ro : xRO} {d : Nat} {M : xM} {T : Nat} {TC : Nat} (hT : M 1 8 = nI TC) (t60 : TC ≤ 60) {n : Nat} (n1 : 1 ≤ n) (n8 : n ≤ 8) {w : Int64} (hf : 60 < TC + n) : Rn ro (d + 90) M_X7_feed 0 [some (.ref 3), some (.long w), none, some (.int (nI n)), none] [] (mk M T) (fun r h => r = some (.int (-1000000004)) ∧ h = mk (up M 60 4 (M 60 4 + 1)) T) := by
  refine R_go 3 (pc' := 4) (L' := [some (.ref 3), some (.long w), none, some (.int (nI n)), none]) (st' := [.int 8, .int 1, .int (nI n)]) (h' := mk M T) (fun _ => rfl) ?_
  refine R_call2 (i := .invokestatic 78) (kd := 1) (y := M_X7_within) (as := [.int (nI n), .int 1, .int 8]) (r := []) (L0 := [some (.int (nI n)), some (.int 1), some (.int 8)]) (v1 := some (.int 1)) (v2 := some (.int 0)) (h1' := mk M T) (h2' := mk M T) (pc' := 7) (st1 := [.int 1]) (st2 := [.int 0]) rfl rfl rfl rfl rfl rfl (c_within) (fun g1 => ?_) (fun g1 => ?_)
  · refine R_go 4 (pc' := 23) (L' := [some (.ref 3), some (.long w), none, some (.int (nI n)), none]) (st' := [.int (M 1 8)]) (h' := mk M T) (fun _ => rfl) ?_
    refine R_top (y := nI TC) (hT) ?_
    refine R_go 2 (pc' := 25) (L' := [some (.ref 3), some (.long w), none, some (.int (nI n)), none]) (st' := [.int (nI TC + nI n)]) (h' := mk M T) (fun _ => rfl) ?_
    refine R_top (nI_add TC n) ?_
    refine R_if 2 (c := (nI (TC + n)) ≤ 60) (t := 36) (f := 30) (L' := [some (.ref 3), some (.long w), none, some (.int (nI n)), none]) (st' := []) (h' := mk M T) (fun _ => rfl) (fun g2 => ?_) (fun g2 => ?_)
    · replace g2 : (TC + n) ≤ 60 := (nI_leI (a := TC + n) (b := 60) (by omega) (by omega)).mp g2
      omega
    · replace g2 : ¬ (TC + n) ≤ 60 := fun q => g2 ((nI_leI (a := TC + n) (b := 60) (by omega) (by omega)).mpr q)
      refine R_go 2 (pc' := 32) (L' := [some (.ref 3), some (.long w), none, some (.int (nI n)), none]) (st' := [.int 4, .ref 3]) (h' := mk M T) (fun _ => rfl) ?_
      refine R_callD (i := .invokevirtual 75) (kd := 0) (y := M_X7_error) (as := [.ref 3, .int 4]) (r := []) (L0 := [some (.ref 3), some (.int 4)]) (v := some (.int (-1000000004))) (h' := mk (up M 60 4 (M 60 4 + 1)) T) (pc' := 35) (st' := [.int (-1000000004)]) rfl rfl rfl rfl rfl rfl (c_error_4) ?_
      refine R_ret 1 (pcr := 35) (v := some (.int (-1000000004))) (h' := mk (up M 60 4 (M 60 4 + 1)) T) (fun _ => rfl) ?_
      exact ⟨rfl, rfl⟩
  · exact absurd (nI_in2 (a := 1) (b := 8) n1 n8 (by omega)) g1
set_option maxRecDepth 100000 in
set_option maxHeartbeats 4000000 in
theorem m_feed_f {ro : xRO} {d : Nat} {M : xM} {T : Nat} {TC : Nat} (hT : M 62 8 = nI TC) (t60 : TC ≤ 60) {n : Nat} (n1 : 1 ≤ n) (n8 : n ≤ 8) {w : Int64} (hf : 60 < TC + n) : Rn ro (d + 90) M_X8_feed 0 [some (.ref 64), some (.long w), none, some (.int (nI n)), none] [] (mk M T) (fun r h => r = some (.int (-1000000004)) ∧ h = mk (up M 64 4 (M 64 4 + 1)) T) := by
  refine R_go 3 (pc' := 4) (L' := [some (.ref 64), some (.long w), none, some (.int (nI n)), none]) (st' := [.int 8, .int 1, .int (nI n)]) (h' := mk M T) (fun _ => rfl) ?_
  refine R_call2 (i := .invokestatic 53) (kd := 1) (y := M_X8_in) (as := [.int (nI n), .int 1, .int 8]) (r := []) (L0 := [some (.int (nI n)), some (.int 1), some (.int 8)]) (v1 := some (.int 1)) (v2 := some (.int 0)) (h1' := mk M T) (h2' := mk M T) (pc' := 7) (st1 := [.int 1]) (st2 := [.int 0]) rfl rfl rfl rfl rfl rfl (m_in) (fun g1 => ?_) (fun g1 => ?_)
  · refine R_go 5 (pc' := 24) (L' := [some (.ref 64), some (.long w), none, some (.int (nI n)), none]) (st' := [.int (M 62 8)]) (h' := mk M T) (fun _ => rfl) ?_
    refine R_top (y := nI TC) (hT) ?_
    refine R_go 2 (pc' := 26) (L' := [some (.ref 64), some (.long w), none, some (.int (nI n)), none]) (st' := [.int (nI TC + nI n)]) (h' := mk M T) (fun _ => rfl) ?_
    refine R_top (nI_add TC n) ?_
    refine R_if 2 (c := (nI (TC + n)) ≤ 60) (t := 38) (f := 31) (L' := [some (.ref 64), some (.long w), none, some (.int (nI n)), none]) (st' := []) (h' := mk M T) (fun _ => rfl) (fun g2 => ?_) (fun g2 => ?_)
    · replace g2 : (TC + n) ≤ 60 := (nI_leI (a := TC + n) (b := 60) (by omega) (by omega)).mp g2
      omega
    · replace g2 : ¬ (TC + n) ≤ 60 := fun q => g2 ((nI_leI (a := TC + n) (b := 60) (by omega) (by omega)).mpr q)
      refine R_go 2 (pc' := 34) (L' := [some (.ref 64), some (.long w), none, some (.int (nI n)), none]) (st' := [.int (-1000000004), .ref 64]) (h' := mk M T) (fun _ => rfl) ?_
      refine R_callD (i := .invokevirtual 81) (kd := 0) (y := M_X8_error) (as := [.ref 64, .int (-1000000004)]) (r := []) (L0 := [some (.ref 64), some (.int (-1000000004))]) (v := some (.int (-1000000004))) (h' := mk (up M 64 4 (M 64 4 + 1)) T) (pc' := 37) (st' := [.int (-1000000004)]) rfl rfl rfl rfl rfl rfl (m_error_4) ?_
      refine R_ret 1 (pcr := 37) (v := some (.int (-1000000004))) (h' := mk (up M 64 4 (M 64 4 + 1)) T) (fun _ => rfl) ?_
      exact ⟨rfl, rfl⟩
  · exact absurd (nI_in2 (a := 1) (b := 8) n1 n8 (by omega)) g1
set_option maxRecDepth 100000 in
set_option maxHeartbeats 4000000 in
theorem lp_x_feed {ro : xRO} {d : Nat} {M : xM} {T : Nat}  {TC : Nat} (hT : M 1 8 = nI TC) (t60 : TC ≤ 60) {n : Nat} (n1 : 1 ≤ n) (n8 : n ≤ 8) {w : Int64} (hf : TC + n ≤ 60) : ∀ (k : Nat) (i : Nat), i + k = n →  Rn ro (d + 90) M_X7_feed 39 [some (.ref 3), some (.long w), none, some (.int (nI n)), some (.int (nI i))] [] (mk (fX M w TC i) T) (fun r h => r = some (.int (nI (TC + n))) ∧ h = mk (fX M w TC n) T) := by
  intro k
  induction k with
  | zero =>
    intro i hi
    obtain rfl : i = n := by omega
    refine R_if 3 (c := (nI i) ≤ (nI i)) (t := 70) (f := 45) (L' := [some (.ref 3), some (.long w), none, some (.int (nI i)), some (.int (nI i))]) (st' := []) (h' := mk (fX M w TC i) T) (fun _ => rfl) (fun g1 => ?_) (fun g1 => ?_)
    · replace g1 : i ≤ i := (nI_leI (a := i) (b := i) (by omega) (by omega)).mp g1
      refine R_go 3 (pc' := 77) (L' := [some (.ref 3), some (.long w), none, some (.int (nI i)), some (.int (nI i))]) (st' := [.int ((fX M w TC i) 1 8)]) (h' := mk (fX M w TC i) T) (fun _ => rfl) ?_
      refine R_top (y := nI (TC + i)) (fX_tc hT i) ?_
      refine R_ret 1 (pcr := 77) (v := some (.int (nI (TC + i)))) (h' := mk (fX M w TC i) T) (fun _ => rfl) ?_
      exact ⟨rfl, rfl⟩
    · replace g1 : ¬ i ≤ i := fun q => g1 ((nI_leI (a := i) (b := i) (by omega) (by omega)).mpr q)
      omega
  | succ k ih =>
    intro i hi
    refine R_if 3 (c := (nI n) ≤ (nI i)) (t := 70) (f := 45) (L' := [some (.ref 3), some (.long w), none, some (.int (nI n)), some (.int (nI i))]) (st' := []) (h' := mk (fX M w TC i) T) (fun _ => rfl) (fun g1 => ?_) (fun g1 => ?_)
    · replace g1 : n ≤ i := (nI_leI (a := n) (b := i) (by omega) (by omega)).mp g1
      omega
    · replace g1 : ¬ n ≤ i := fun q => g1 ((nI_leI (a := n) (b := i) (by omega) (by omega)).mpr q)
      refine R_go 6 (pc' := 55) (L' := [some (.ref 3), some (.long w), none, some (.int (nI n)), some (.int (nI i))]) (st' := [.int (8 * nI i), .long w, .ref 4]) (h' := mk (fX M w TC i) T) (fun _ => rfl) ?_
      refine R_top (pk_mul 8 i) ?_
      refine R_go 4 (pc' := 61) (L' := [some (.ref 3), some (.long w), none, some (.int (nI n)), some (.int (nI i))]) (st' := [.int ((((w.toUInt64 >>> ((Int32.toInt64 (nI (8 * i))).toUInt64 &&& Int64.toUInt64 63)).toInt64).toInt32) &&& 255), .ref 4]) (h' := mk (fX M w TC i) T) (fun _ => rfl) ?_
      refine R_callD (i := .invokevirtual 145) (kd := 0) (y := M_X0_addByte) (as := [.ref 4, .int ((((w.toUInt64 >>> ((Int32.toInt64 (nI (8 * i))).toUInt64 &&& Int64.toUInt64 63)).toInt64).toInt32) &&& 255)]) (r := []) (L0 := [some (.ref 4), some (.int ((((w.toUInt64 >>> ((Int32.toInt64 (nI (8 * i))).toUInt64 &&& Int64.toUInt64 63)).toInt64).toInt32) &&& 255))]) (v := none) (h' := mk (fX M w TC (i + 1)) T) (pc' := 64) (st' := []) rfl rfl rfl rfl rfl rfl (c_addByte (TC := TC + i) (fX_tc hT i) (by omega)) ?_
      refine R_go 1 (pc' := 67) (L' := [some (.ref 3), some (.long w), none, some (.int (nI n)), some (.int ((nI i) + 1))]) (st' := []) (h' := mk (fX M w TC (i + 1)) T) (fun _ => rfl) ?_
      rw [nI_1]
      refine R_go 1 (pc' := 39) (L' := [some (.ref 3), some (.long w), none, some (.int (nI n)), some (.int (nI (i + 1)))]) (st' := []) (h' := mk (fX M w TC (i + 1)) T) (fun _ => rfl) ?_
      exact ih (i + 1) (by omega)
set_option maxRecDepth 100000 in
set_option maxHeartbeats 4000000 in
theorem x_feed_i {ro : xRO} {d : Nat} {M : xM} {T : Nat} {TC : Nat} (hT : M 1 8 = nI TC) (t60 : TC ≤ 60) {n : Nat} (n1 : 1 ≤ n) (n8 : n ≤ 8) {w : Int64} (hf : TC + n ≤ 60) : Rn ro (d + 90) M_X7_feed 0 [some (.ref 3), some (.long w), none, some (.int (nI n)), none] [] (mk M T) (fun r h => r = some (.int (nI (TC + n))) ∧ h = mk (fX M w TC n) T) := by
  refine R_go 3 (pc' := 4) (L' := [some (.ref 3), some (.long w), none, some (.int (nI n)), none]) (st' := [.int 8, .int 1, .int (nI n)]) (h' := mk M T) (fun _ => rfl) ?_
  refine R_call2 (i := .invokestatic 78) (kd := 1) (y := M_X7_within) (as := [.int (nI n), .int 1, .int 8]) (r := []) (L0 := [some (.int (nI n)), some (.int 1), some (.int 8)]) (v1 := some (.int 1)) (v2 := some (.int 0)) (h1' := mk M T) (h2' := mk M T) (pc' := 7) (st1 := [.int 1]) (st2 := [.int 0]) rfl rfl rfl rfl rfl rfl (c_within) (fun g1 => ?_) (fun g1 => ?_)
  · refine R_go 4 (pc' := 23) (L' := [some (.ref 3), some (.long w), none, some (.int (nI n)), none]) (st' := [.int (M 1 8)]) (h' := mk M T) (fun _ => rfl) ?_
    refine R_top (y := nI TC) (hT) ?_
    refine R_go 2 (pc' := 25) (L' := [some (.ref 3), some (.long w), none, some (.int (nI n)), none]) (st' := [.int (nI TC + nI n)]) (h' := mk M T) (fun _ => rfl) ?_
    refine R_top (nI_add TC n) ?_
    refine R_if 2 (c := (nI (TC + n)) ≤ 60) (t := 36) (f := 30) (L' := [some (.ref 3), some (.long w), none, some (.int (nI n)), none]) (st' := []) (h' := mk M T) (fun _ => rfl) (fun g2 => ?_) (fun g2 => ?_)
    · replace g2 : (TC + n) ≤ 60 := (nI_leI (a := TC + n) (b := 60) (by omega) (by omega)).mp g2
      refine R_go 2 (pc' := 39) (L' := [some (.ref 3), some (.long w), none, some (.int (nI n)), some (.int 0)]) (st' := []) (h' := mk M T) (fun _ => rfl) ?_
      exact lp_x_feed hT t60 n1 n8 hf n 0 (Nat.zero_add n)
    · replace g2 : ¬ (TC + n) ≤ 60 := fun q => g2 ((nI_leI (a := TC + n) (b := 60) (by omega) (by omega)).mpr q)
      omega
  · exact absurd (nI_in2 (a := 1) (b := 8) n1 n8 (by omega)) g1
set_option maxRecDepth 100000 in
set_option maxHeartbeats 4000000 in
theorem lp_m_feed {ro : xRO} {d : Nat} {M : xM} {T : Nat}  {TC : Nat} (hT : M 62 8 = nI TC) (t60 : TC ≤ 60) {n : Nat} (n1 : 1 ≤ n) (n8 : n ≤ 8) {w : Int64} (hf : TC + n ≤ 60) : ∀ (k : Nat) (i : Nat), i + k = n →  Rn ro (d + 90) M_X8_feed 41 [some (.ref 64), some (.long w), none, some (.int (nI n)), some (.int (nI i))] [] (mk (fM M w TC i) T) (fun r h => r = some (.int (nI (TC + n))) ∧ h = mk (fM M w TC n) T) := by
  intro k
  induction k with
  | zero =>
    intro i hi
    obtain rfl : i = n := by omega
    refine R_if 3 (c := (nI i) ≤ (nI i)) (t := 91) (f := 47) (L' := [some (.ref 64), some (.long w), none, some (.int (nI i)), some (.int (nI i))]) (st' := []) (h' := mk (fM M w TC i) T) (fun _ => rfl) (fun g1 => ?_) (fun g1 => ?_)
    · replace g1 : i ≤ i := (nI_leI (a := i) (b := i) (by omega) (by omega)).mp g1
      refine R_go 4 (pc' := 98) (L' := [some (.ref 64), some (.long w), none, some (.int (nI i)), some (.int (nI i))]) (st' := [.int ((fM M w TC i) 62 8)]) (h' := mk (fM M w TC i) T) (fun _ => rfl) ?_
      refine R_top (y := nI (TC + i)) (fM_tc hT i) ?_
      refine R_ret 1 (pcr := 98) (v := some (.int (nI (TC + i)))) (h' := mk (fM M w TC i) T) (fun _ => rfl) ?_
      exact ⟨rfl, rfl⟩
    · replace g1 : ¬ i ≤ i := fun q => g1 ((nI_leI (a := i) (b := i) (by omega) (by omega)).mpr q)
      omega
  | succ k ih =>
    intro i hi
    refine R_if 3 (c := (nI n) ≤ (nI i)) (t := 91) (f := 47) (L' := [some (.ref 64), some (.long w), none, some (.int (nI n)), some (.int (nI i))]) (st' := []) (h' := mk (fM M w TC i) T) (fun _ => rfl) (fun g1 => ?_) (fun g1 => ?_)
    · replace g1 : n ≤ i := (nI_leI (a := n) (b := i) (by omega) (by omega)).mp g1
      omega
    · replace g1 : ¬ n ≤ i := fun q => g1 ((nI_leI (a := n) (b := i) (by omega) (by omega)).mpr q)
      refine R_go 7 (pc' := 60) (L' := [some (.ref 64), some (.long w), none, some (.int (nI n)), some (.int (nI i))]) (st' := [.int ((fM M w TC i) 62 8), .int 72, .ref 65]) (h' := mk (fM M w TC i) T) (fun _ => rfl) ?_
      refine R_top (y := nI (TC + i)) (fM_tc hT i) ?_
      refine R_go 1 (pc' := 61) (L' := [some (.ref 64), some (.long w), none, some (.int (nI n)), some (.int (nI i))]) (st' := [.int (72 + nI (TC + i)), .ref 65]) (h' := mk (fM M w TC i) T) (fun _ => rfl) ?_
      refine R_top (nI_add 72 (TC + i)) ?_
      refine R_go 4 (pc' := 67) (L' := [some (.ref 64), some (.long w), none, some (.int (nI n)), some (.int (nI i))]) (st' := [.int (8 * nI i), .long w, .int (nI (72 + (TC + i))), .ref 65]) (h' := mk (fM M w TC i) T) (fun _ => rfl) ?_
      refine R_top (pk_mul 8 i) ?_
      refine R_go 4 (pc' := 73) (L' := [some (.ref 64), some (.long w), none, some (.int (nI n)), some (.int (nI i))]) (st' := [.int (((w >>> (Int32.toInt64 (nI (8 * i)) &&& 63)) &&& 255).toInt32), .int (nI (72 + (TC + i))), .ref 65]) (h' := mk (fM M w TC i) T) (fun _ => rfl) ?_
      refine R_iast (c := 62) (n := 398) (j := 72 + (TC + i)) rfl rfl (by omega) (by decide) ?_
      refine R_go 5 (pc' := 82) (L' := [some (.ref 64), some (.long w), none, some (.int (nI n)), some (.int (nI i))]) (st' := [.int ((up (fM M w TC i) 62 (72 + (TC + i)) (((w >>> (Int32.toInt64 (nI (8 * i)) &&& 63)) &&& 255).toInt32)) 62 8), .int 8, .ref 65]) (h' := mk (up (fM M w TC i) 62 (72 + (TC + i)) (((w >>> (Int32.toInt64 (nI (8 * i)) &&& 63)) &&& 255).toInt32)) T) (fun _ => rfl) ?_
      refine R_top (y := nI (TC + i)) ((up_nj (by omega) 62).trans (fM_tc hT i)) ?_
      refine R_go 2 (pc' := 84) (L' := [some (.ref 64), some (.long w), none, some (.int (nI n)), some (.int (nI i))]) (st' := [.int (nI (TC + i) + 1), .int 8, .ref 65]) (h' := mk (up (fM M w TC i) 62 (72 + (TC + i)) (((w >>> (Int32.toInt64 (nI (8 * i)) &&& 63)) &&& 255).toInt32)) T) (fun _ => rfl) ?_
      refine R_top (nI_add (TC + i) 1) ?_
      refine R_go 2 (pc' := 88) (L' := [some (.ref 64), some (.long w), none, some (.int (nI n)), some (.int ((nI i) + 1))]) (st' := []) (h' := mk (up (up (fM M w TC i) 62 (72 + (TC + i)) (((w >>> (Int32.toInt64 (nI (8 * i)) &&& 63)) &&& 255).toInt32)) 62 8 (nI ((TC + i) + 1))) T) (fun _ => rfl) ?_
      rw [nI_1]
      refine R_go 1 (pc' := 41) (L' := [some (.ref 64), some (.long w), none, some (.int (nI n)), some (.int (nI (i + 1)))]) (st' := []) (h' := mk (up (up (fM M w TC i) 62 (72 + (TC + i)) (((w >>> (Int32.toInt64 (nI (8 * i)) &&& 63)) &&& 255).toInt32)) 62 8 (nI ((TC + i) + 1))) T) (fun _ => rfl) ?_
      exact ih (i + 1) (by omega)
set_option maxRecDepth 100000 in
set_option maxHeartbeats 4000000 in
theorem m_feed_i {ro : xRO} {d : Nat} {M : xM} {T : Nat} {TC : Nat} (hT : M 62 8 = nI TC) (t60 : TC ≤ 60) {n : Nat} (n1 : 1 ≤ n) (n8 : n ≤ 8) {w : Int64} (hf : TC + n ≤ 60) : Rn ro (d + 90) M_X8_feed 0 [some (.ref 64), some (.long w), none, some (.int (nI n)), none] [] (mk M T) (fun r h => r = some (.int (nI (TC + n))) ∧ h = mk (fM M w TC n) T) := by
  refine R_go 3 (pc' := 4) (L' := [some (.ref 64), some (.long w), none, some (.int (nI n)), none]) (st' := [.int 8, .int 1, .int (nI n)]) (h' := mk M T) (fun _ => rfl) ?_
  refine R_call2 (i := .invokestatic 53) (kd := 1) (y := M_X8_in) (as := [.int (nI n), .int 1, .int 8]) (r := []) (L0 := [some (.int (nI n)), some (.int 1), some (.int 8)]) (v1 := some (.int 1)) (v2 := some (.int 0)) (h1' := mk M T) (h2' := mk M T) (pc' := 7) (st1 := [.int 1]) (st2 := [.int 0]) rfl rfl rfl rfl rfl rfl (m_in) (fun g1 => ?_) (fun g1 => ?_)
  · refine R_go 5 (pc' := 24) (L' := [some (.ref 64), some (.long w), none, some (.int (nI n)), none]) (st' := [.int (M 62 8)]) (h' := mk M T) (fun _ => rfl) ?_
    refine R_top (y := nI TC) (hT) ?_
    refine R_go 2 (pc' := 26) (L' := [some (.ref 64), some (.long w), none, some (.int (nI n)), none]) (st' := [.int (nI TC + nI n)]) (h' := mk M T) (fun _ => rfl) ?_
    refine R_top (nI_add TC n) ?_
    refine R_if 2 (c := (nI (TC + n)) ≤ 60) (t := 38) (f := 31) (L' := [some (.ref 64), some (.long w), none, some (.int (nI n)), none]) (st' := []) (h' := mk M T) (fun _ => rfl) (fun g2 => ?_) (fun g2 => ?_)
    · replace g2 : (TC + n) ≤ 60 := (nI_leI (a := TC + n) (b := 60) (by omega) (by omega)).mp g2
      refine R_go 2 (pc' := 41) (L' := [some (.ref 64), some (.long w), none, some (.int (nI n)), some (.int 0)]) (st' := []) (h' := mk M T) (fun _ => rfl) ?_
      exact lp_m_feed hT t60 n1 n8 hf n 0 (Nat.zero_add n)
    · replace g2 : ¬ (TC + n) ≤ 60 := fun q => g2 ((nI_leI (a := TC + n) (b := 60) (by omega) (by omega)).mpr q)
      omega
  · exact absurd (nI_in2 (a := 1) (b := 8) n1 n8 (by omega)) g1
set_option maxHeartbeats 4000000 in
theorem op_feed {ro : xRO} {M : xM} {T : Nat} (h : Rel M) {w : Int64} {v : Int32} : OpOK ro M_X7_feed M_X8_feed [some (.ref 3), some (.long w), none, some (.int v), none] [some (.ref 64), some (.long w), none, some (.int v), none] M T := by
  obtain ⟨P, H, h8, h6, pm, hm, px, hx, a, b1, b2, b3, b4, c2, c3, c4, c5⟩ := rel_all h
  obtain ⟨TC, t60, tm⟩ := c2.1
  have hc : (∃ n, 1 ≤ n ∧ n ≤ 8 ∧ v = nI n) ∨ ¬ (1 ≤ v ∧ v ≤ 8) := by
    rcases of_in v (b := 8) (by omega) with ⟨n, hn, rfl⟩ | q
    · by_cases n1 : 1 ≤ n
      · exact Or.inl ⟨n, n1, hn, rfl⟩
      · exact Or.inr (fun q => n1 ((nI_leI (a := 1) (by omega) (by omega)).mp q.1))
    · exact Or.inr (fun z => q ⟨by grind, z.2⟩)
  rcases hc with ⟨n, n1, n8, rfl⟩ | hv
  · rcases Nat.lt_or_ge 60 (TC + n) with hf | hf
    · exact OpOK.of (fun d => x_feed_f (a.1.trans tm) t60 n1 n8 hf) (fun d => m_feed_f (M := up M 60 4 (M 60 4 + 1)) tm t60 n1 n8 hf) rfl (h.err 4 (by omega))
    · exact OpOK.of (fun d => x_feed_i (a.1.trans tm) t60 n1 n8 hf) (fun d => m_feed_i (M := fX M w TC n) ((congrFun (fX_ne (by omega) (by omega) n) 8).trans tm) t60 n1 n8 hf) rfl (rel_fd h tm n n8 hf)
  · exact OpOK.of (fun d => x_feed_b hv) (fun d => m_feed_b (M := up M 60 1 (M 60 1 + 1)) hv) rfl (h.err 1 (by omega))
