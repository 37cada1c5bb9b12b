/-! OPERATION loose: draws and nights -/
def zz (z : Int32) : Int32 := z * 1103515245 + 12345
def dz (z : Int32) : Nat := (zz z).toUInt32.toNat / 256
theorem dz_lt (z : Int32) : dz z < 2 ^ 24 := by
  unfold dz
  have := (zz z).toUInt32.toNat_lt
  omega
theorem shr8 (x : Int32) : (x.toUInt32 >>> (Int32.toUInt32 8 &&& Int32.toUInt32 31)).toInt32 = nI (x.toUInt32.toNat / 256) := by
  apply Int32.toBitVec_inj.mp
  apply BitVec.eq_of_toNat_eq
  show ((x.toUInt32 >>> (Int32.toUInt32 8 &&& Int32.toUInt32 31)).toBitVec).toNat = (BitVec.ofNat 32 (x.toUInt32.toNat / 256)).toNat
  rw [UInt32.toBitVec_shiftRight]
  show (x.toUInt32.toBitVec >>> 8).toNat = _
  rw [BitVec.toNat_ushiftRight, BitVec.toNat_ofNat, Nat.shiftRight_eq_div_pow]
  have := x.toUInt32.toNat_lt
  show x.toUInt32.toNat / 2 ^ 8 = (x.toUInt32.toNat / 256) % 2 ^ 32
  omega
theorem c_drawZ {ro : xRO} {d : Nat} {M : xM} {T : Nat} {z : Int32} (hz : M 1 15 = z) : Rn ro d M_X0_draw 0 [some (.ref 4)] [] (mk M T) (fun r h => r = some (.int (nI (dz z))) ∧ h = mk (up M 1 15 (zz z)) T) :=
  c_draw.imp (fun _ _ q => ⟨by rw [q.1, hz, shr8]; rfl, by rw [q.2, hz]; rfl⟩)
set_option maxRecDepth 100000 in
set_option maxHeartbeats 4000000 in
theorem m_draw {ro : xRO} {d : Nat} {M : xM} {T : Nat}  : Rn ro d M_X8_draw 0 [some (.ref 64)] [] (mk M T) (fun r h => r = some (.int (((M 62 5 * 1103515245 + 12345).toUInt32 >>> (Int32.toUInt32 8 &&& Int32.toUInt32 31)).toInt32)) ∧ h = mk (up M 62 5 (M 62 5 * 1103515245 + 12345)) T) := by
  refine R_ret 19 (pcr := 28) (v := some (.int ((((up M 62 5 (((M 62 5) * 1103515245) + 12345)) 62 5).toUInt32 >>> (Int32.toUInt32 8 &&& Int32.toUInt32 31)).toInt32))) (h' := mk (up M 62 5 (((M 62 5) * 1103515245) + 12345)) T) (fun _ => rfl) ?_
  exact ⟨rfl, rfl⟩
theorem m_drawZ {ro : xRO} {d : Nat} {M : xM} {T : Nat} {z : Int32} (hz : M 62 5 = z) : Rn ro d M_X8_draw 0 [some (.ref 64)] [] (mk M T) (fun r h => r = some (.int (nI (dz z))) ∧ h = mk (up M 62 5 (zz z)) T) :=
  m_draw.imp (fun _ _ q => ⟨by rw [q.1, hz, shr8]; rfl, by rw [q.2, hz]; rfl⟩)
/-- a night's draws, on both sides -/
def drV (V : xM) : xM := up (up (up (up (up (up V 1 15 (zz (zz (V 1 15)))) 1 11 (nI (dz (V 1 15) % 41))) 1 13 (nI (dz (zz (V 1 15)) % 2))) 62 5 (zz (zz (V 1 15)))) 62 0 (nI (dz (V 1 15) % 41))) 62 2 (nI (dz (zz (V 1 15)) % 2))
theorem Rel.draw {M : xM} (h : Rel M) : Rel (drV M) := by
  unfold drV
  obtain ⟨P, H, h8, h6, pm, hm, px, hx, a, b1, b2, b3, b4, c2, c3, c4, c5⟩ := rel_all h
  obtain ⟨cc, hcc⟩ : ∃ cc, cc = nI (dz (M 1 15) % 41) := ⟨_, rfl⟩
  obtain ⟨ll, hll⟩ : ∃ ll, ll = nI (dz (zz (M 1 15)) % 2) := ⟨_, rfl⟩
  have i1 : iN cc 40 := ⟨dz (M 1 15) % 41, by omega, hcc⟩
  have i2 : iN ll 1 := ⟨dz (zz (M 1 15)) % 2, by omega, hll⟩
  obtain ⟨z2, hz2⟩ : ∃ z2, z2 = zz (zz (M 1 15)) := ⟨_, rfl⟩
  rw [← hcc, ← hll, ← hz2]
  refine h.now ?_ ?_ ?_ ?_ ?_ ?_ ?_ P H ?_ ?_ ?_ ?_ ?_
  · intro c x y; simp only [up_ne x, up_ne (show c ≠ 1 from fun q => y (by omega)), up_ne (show c ≠ 11 from fun q => y (by omega)), up_ne (show c ≠ 12 from fun q => y (by omega)), up_ne (show c ≠ 13 from fun q => y (by omega))]
  · intro j hj; simp only [up_rd]; grind
  · unfold hsA; simp only [up_rd]; grind
  · intro p j hp hj; have := b1 p j hp hj; simp only [up_rd]; grind
  · intro i hi; have := b2 i hi; have := c5 i hi; simp only [up_rd]; grind
  · intro i hi; have := b3 i hi; simp only [up_rd]; grind
  · intro i hi; have := b4 i hi; simp only [up_rd]; grind
  · unfold rwA; simp only [up_rd]; grind
  · unfold rwB; simp only [up_rd]; grind
  · intro p hp; have := c3 p hp; simp only [up_rd]; grind
  · intro p hp; obtain ⟨he, e1, e2⟩ := c4 p (by omega); exact ⟨he, by omega, by simp only [up_rd]; grind⟩
  · intro i hi; have := c5 i hi; have : iN 0 99999 := ⟨0, by omega, rfl⟩; simp only [up_rd]; grind
/-- a night's reading by the numbers, on both sides -/
def idN : Nat → Nat := fun i => i
def nV (V : xM) (P : Nat) : xM := fun c j =>
  if c = 1 ∧ j = 10 then nI (chT V (wkV V 0 idN P) P) else if c = 1 ∧ j = 14 then V 1 14 + 1
  else if c = 11 ∧ j < 6 then nI (puT V (wkV V 0 idN P) P j)
  else if c = 62 ∧ j = 4 then nI (chT V (wkV V 0 idN P) P) else if c = 62 ∧ j = 3 then V 62 3 + 1
  else if c = 62 ∧ 66 ≤ j ∧ j ≤ 71 then nI (puT V (wkV V 0 idN P) P (j - 66)) else V c j
theorem nV_rel {V : xM} (h : Rel V) {P : Nat} (pm : V 62 6 = nI P) (h8 : P ≤ 8) {nt : Nat} (hnt : V 62 3 = nI nt) (n9 : nt < 9999) : Rel (nV V P) := by
  have e14 : V 1 14 = nI nt := h.1.1.1.2.2.2.2.2.2.2.2.1.trans hnt
  refine rel_read h pm h8 (wv := wkV V 0 idN P) hnt n9 (fun j a b => ?_) ?_ ?_ (fun j hj => ?_) (fun j a b c => ?_) ?_ ?_ (fun j hj => ?_) (fun c hc a b d => ?_)
  · unfold nV; rw [if_neg (by omega), if_neg (by omega), if_neg (by omega), if_neg (by omega), if_neg (by omega), if_neg (by omega)]
  · unfold nV; rw [if_pos ⟨rfl, rfl⟩]
  · unfold nV; rw [if_neg (by omega), if_pos ⟨rfl, rfl⟩, e14, nI_1]
  · unfold nV; rw [if_neg (by omega), if_neg (by omega), if_pos ⟨rfl, hj⟩]
  · unfold nV; rw [if_neg (by omega), if_neg (by omega), if_neg (by omega), if_neg (by omega), if_neg (by omega), if_neg (by omega)]
  · unfold nV; rw [if_neg (by omega), if_neg (by omega), if_neg (by omega), if_pos ⟨rfl, rfl⟩]
  · unfold nV; rw [if_neg (by omega), if_neg (by omega), if_neg (by omega), if_neg (by omega), if_pos ⟨rfl, rfl⟩, hnt, nI_1]
  · unfold nV; rw [if_neg (by omega), if_neg (by omega), if_neg (by omega), if_neg (by omega), if_neg (by omega), if_pos ⟨rfl, by omega, by omega⟩, show 66 + j - 66 = j by omega]
  · unfold nV; funext j; rw [if_neg (by omega), if_neg (by omega), if_neg (by omega), if_neg (by omega), if_neg (by omega), if_neg (by omega)]
/-- texts and panes as they were: so is what they come to -/
theorem vl_same {V V' : xM} (h : ∀ j, 10 ≤ j → ¬ (66 ≤ j ∧ j ≤ 71) → V' 62 j = V 62 j) (p r : Nat) (hp : p < 8) : vlN V' p r = vlN V p r ∧ tkN V' p r = tkN V p r := by
  unfold vlN tkN vlX tkX woN heN flN kdN
  rw [h 277 (by omega) (by omega), h 156 (by omega) (by omega), h (10 + 7 * p + 6) (by omega) (by omega), h (10 + 7 * p + 5) (by omega) (by omega), h (10 + 7 * p + 4) (by omega) (by omega), h (10 + 7 * p + 0) (by omega) (by omega), show (fun i => V' 62 (278 + i)) = fun i => V 62 (278 + i) from funext fun i => h _ (by omega) (by omega), show (fun i => V' 62 (338 + i)) = fun i => V 62 (338 + i) from funext fun i => h _ (by omega) (by omega), show (fun i => V' 62 (157 + i)) = fun i => V 62 (157 + i) from funext fun i => h _ (by omega) (by omega), show (fun i => V' 62 (217 + i)) = fun i => V 62 (217 + i) from funext fun i => h _ (by omega) (by omega)]
  exact ⟨rfl, rfl⟩
theorem Memo.same {V V' M : xM} (hm : Memo V M) (h : ∀ j, 10 ≤ j → ¬ (66 ≤ j ∧ j ≤ 71) → V' 62 j = V 62 j) : Memo V' M := by
  intro p r hp hr
  rw [(vl_same h p r hp).1, (vl_same h p r hp).2]
  exact hm p r hp hr
theorem dn_62 {V : xM} {P : Nat} : ∀ j, 10 ≤ j → ¬ (66 ≤ j ∧ j ≤ 71) → nV (drV V) P 62 j = V 62 j := by
  intro j a b
  unfold nV
  rw [if_neg (by omega), if_neg (by omega), if_neg (by omega), if_neg (by omega), if_neg (by omega), if_neg (by omega)]
  unfold drV
  rw [up_nj (by omega), up_nj (by omega), up_nj (by omega), up_ne (by omega), up_ne (by omega), up_ne (by omega)]
theorem dr_62 {V : xM} : ∀ j, 10 ≤ j → ¬ (66 ≤ j ∧ j ≤ 71) → drV V 62 j = V 62 j := by
  intro j a b
  unfold drV
  rw [up_nj (by omega), up_nj (by omega), up_nj (by omega), up_ne (by omega), up_ne (by omega), up_ne (by omega)]
theorem dr_ne {V : xM} {c : Nat} (h1 : c ≠ 1) (h2 : c ≠ 62) : drV V c = V c := by
  unfold drV
  rw [up_ne h2, up_ne h2, up_ne h2, up_ne h1, up_ne h1, up_ne h1]
theorem n_ne {V : xM} {P c : Nat} (h1 : c ≠ 1) (h2 : c ≠ 62) (h3 : c ≠ 11) : nV V P c = V c := by
  funext j
  unfold nV
  rw [if_neg (by omega), if_neg (by omega), if_neg (by omega), if_neg (by omega), if_neg (by omega), if_neg (by omega)]
def nights (V : xM) (P : Nat) : Nat → xM
  | 0 => V
  | k + 1 => nV (drV (nights V P k)) P
