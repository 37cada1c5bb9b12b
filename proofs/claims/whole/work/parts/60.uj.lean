/-! OPERATION reading -/
theorem bit_g {s : Int32} {v : Nat} (hv : v < 8) : bitP s v ↔ s.toBitVec.getLsbD v = true := by
  have e1 : (((nI v) &&& 31).toBitVec.smod 32).toNat = v := (by decide : ∀ i : Fin 8, (((nI i.val) &&& 31).toBitVec.smod 32).toNat = i.val) ⟨v, hv⟩
  have e2 : ((s >>> ((nI v) &&& 31)) &&& 1).toBitVec = (s.toBitVec.sshiftRight v) &&& 1#32 := by
    rw [Int32.toBitVec_and, Int32.toBitVec_shiftRight]
    show (s.toBitVec.sshiftRight (((nI v) &&& 31).toBitVec.smod 32).toNat) &&& 1#32 = _
    rw [e1]
  unfold bitP
  rw [← Int32.toBitVec_inj, e2, show (1 : Int32).toBitVec = 1#32 from rfl]
  have e3 : (s.toBitVec.sshiftRight v).getLsbD 0 = s.toBitVec.getLsbD v := by
    rw [BitVec.getLsbD_sshiftRight]
    simp [show v < 32 by omega]
  constructor
  · intro h
    have := congrArg (fun z : BitVec 32 => z.getLsbD 0) h
    simp only [BitVec.getLsbD_and] at this
    rw [e3] at this
    simpa using this
  · intro h
    apply BitVec.eq_of_getLsbD_eq
    intro i hi
    rw [BitVec.getLsbD_and]
    by_cases q : i = 0
    · rw [q, e3, h]; rfl
    · have : (1#32).getLsbD i = false := by
        rw [BitVec.getLsbD_eq_getElem hi, BitVec.getElem_eq_testBit_toNat]
        show Nat.testBit 1 i = false
        exact Nat.testBit_lt_two_pow (Nat.one_lt_two_pow (by omega))
      rw [this, Bool.and_false]
theorem mkF_bit {ord : Nat → Nat} {P : Nat} (h8 : P ≤ 8) (ho : ∀ i, i < P → ord i < P) : ∀ i, i ≤ P → ∀ i', i' < i → bitP (mkF ord i) (ord i') := by
  intro i
  induction i with
  | zero => intro _ i' h; exact absurd h (Nat.not_lt_zero i')
  | succ i ih =>
    intro hi i' h
    have hv : ord i' < 8 := by have := ho i' (by omega); omega
    rw [bit_g hv]
    show ((mkF ord i) ||| (1 <<< ((nI (ord i)) &&& 31))).toBitVec.getLsbD (ord i') = true
    rw [Int32.toBitVec_or, BitVec.getLsbD_or]
    by_cases q : i' = i
    · subst q
      have : bitP (1 <<< ((nI (ord i')) &&& 31)) (ord i') := (by decide : ∀ i : Fin 8, ((((1 : Int32) <<< ((nI i.val) &&& 31)) >>> ((nI i.val) &&& 31)) &&& 1) = 1) ⟨ord i', hv⟩
      rw [bit_g hv] at this
      rw [this, Bool.or_true]
    · have := ih (by omega) i' (by omega)
      rw [bit_g hv] at this
      rw [this, Bool.true_or]
theorem php : ∀ (P : Nat) (f : Nat → Nat), (∀ i, i < P → f i < P) → (∀ i j, i < j → j < P → f i ≠ f j) → ∀ y, y < P → ∃ i, i < P ∧ f i = y := by
  intro P
  induction P with
  | zero => intro f _ _ y hy; exact absurd hy (Nat.not_lt_zero y)
  | succ P ih =>
    intro f hf hi y hy
    have inj : ∀ i j, i < P + 1 → j < P + 1 → f i = f j → i = j := by
      intro i j a b e
      rcases Nat.lt_trichotomy i j with q | q | q
      · exact absurd e (hi i j q b)
      · exact q
      · exact absurd e.symm (hi j i q a)
    have g := ih (fun i => if f i = P then f P else f i) (fun i h => by
      split
      · rename_i q
        have a := hf P (by omega)
        have : f P ≠ P := fun z => by have := inj i P (by omega) (by omega) (q.trans z.symm); omega
        omega
      · have := hf i (by omega); omega) (fun i j a b => by
      split
      · rename_i q
        split
        · rename_i q2
          have := inj i j (by omega) (by omega) (q.trans q2.symm); omega
        · intro z; have := inj P j (by omega) (by omega) z; omega
      · split
        · intro z; have := inj i P (by omega) (by omega) z; omega
        · exact hi i j a (by omega))
    by_cases e1 : f P = y
    · exact ⟨P, by omega, e1⟩
    · by_cases e2 : y = P
      · obtain ⟨i, i1, i2⟩ := g (f P) (by have := hf P (by omega); omega)
        split at i2
        · rename_i q; exact ⟨i, by omega, q.trans e2.symm⟩
        · have := inj i P (by omega) (by omega) i2; omega
      · obtain ⟨i, i1, i2⟩ := g y (by omega)
        split at i2
        · exact absurd i2 e1
        · exact ⟨i, by omega, i2⟩
theorem su_of {cs : Nat → Int32} {P : Nat} (h8 : P ≤ 8) (hL : lst (trF cs P) 0 P = P) : ∀ j, j < P → ∃ i, i < P ∧ ordF cs i = j := by
  have ho := ho_of h8 hL
  refine php P (ordF cs) ho (fun i j a b e => ?_)
  obtain ⟨v, v1, v2, v3, v4⟩ := trF_f h8 (lst_all (f := trF cs P) P 0 j (by omega) (by omega))
  have := mkF_bit h8 ho j (by omega) i a
  rw [e, v3] at this
  exact v4 this
theorem puT_hi {M0 : xM} {wv : Nat → Nat} {j : Nat} : ∀ i, (∀ i', i' < i → heN M0 i' ≠ j) → puT M0 wv i j = (M0 62 (66 + j)).toNatClampNeg := by
  intro i
  induction i with
  | zero => intro _; rfl
  | succ i ih =>
    intro h
    show (if j = heN M0 i then _ else _) = _
    rw [if_neg (fun q => h i (by omega) q.symm)]
    exact ih (fun i' a => h i' (by omega))
theorem rel_read {M M2 : xM} (h : Rel M) {P : Nat} (pm0 : M 62 6 = nI P) (hP8 : P ≤ 8) {wv : Nat → Nat} {nt : Nat} (hnt : M 62 3 = nI nt) (n9 : nt < 9999) (c1 : ∀ j, j ≠ 10 → j ≠ 14 → M2 1 j = M 1 j) (c10 : M2 1 10 = nI (chT M wv P)) (c14 : M2 1 14 = nI (nt + 1)) (c11 : ∀ j, j < 6 → M2 11 j = nI (puT M wv P j)) (r : ∀ j, j ≠ 3 → j ≠ 4 → ¬ (66 ≤ j ∧ j ≤ 71) → M2 62 j = M 62 j) (r4 : M2 62 4 = nI (chT M wv P)) (r3 : M2 62 3 = nI (nt + 1)) (r66 : ∀ j, j < 6 → M2 62 (66 + j) = nI (puT M wv P j)) (hf : ∀ c, ¬ sIr c → c ≠ 1 → c ≠ 11 → c ≠ 62 → M2 c = M c) : Rel M2 := by
  obtain ⟨P', H, h8, h6, pm, hm, px, hx, a, b1, b2, b3, b4, c2, c3, c4, c5⟩ := rel_all h
  obtain rfl : P' = P := nI_inj (by omega) (by omega) (pm.symm.trans pm0)
  obtain ⟨M3, e3⟩ : ∃ M3 : xM, M3 = fun c j => if c = 1 ∨ c = 11 ∨ c = 62 then M2 c j else M c j := ⟨_, rfl⟩
  have g1 : ∀ c, c = 1 ∨ c = 11 ∨ c = 62 → M3 c = M2 c := fun c q => by rw [e3]; funext j; exact if_pos q
  have g2 : ∀ c, ¬ (c = 1 ∨ c = 11 ∨ c = 62) → M3 c = M c := fun c q => by rw [e3]; funext j; exact if_neg q
  have k1 := g1 1 (by omega)
  have k11 := g1 11 (by omega)
  have k62 := g1 62 (by omega)
  have r3 : Rel M3 := by
    refine h.now (fun c a b => g2 c (by omega)) (fun j hj => by rw [k62]; exact r j (by omega) (by omega) (by omega)) ?_ ?_ ?_ ?_ ?_ P' H ?_ ?_ ?_ ?_ ?_
    · unfold hsA
      rw [k1, k62, c1 6 (by omega) (by omega), c1 7 (by omega) (by omega), c1 8 (by omega) (by omega), c1 9 (by omega) (by omega), c1 11 (by omega) (by omega), c1 12 (by omega) (by omega), c1 13 (by omega) (by omega), c1 15 (by omega) (by omega), r 6 (by omega) (by omega) (by omega), r 7 (by omega) (by omega) (by omega), r 8 (by omega) (by omega) (by omega), r 9 (by omega) (by omega) (by omega), r 0 (by omega) (by omega) (by omega), r 1 (by omega) (by omega) (by omega), r 2 (by omega) (by omega) (by omega), r 5 (by omega) (by omega) (by omega), c10, c14, r4, r3]
      exact ⟨px.trans pm.symm, hx.trans hm.symm, a.1, a.2.1, rfl, a.2.2.2.1, a.2.2.2.2.1, a.2.2.2.2.2.1, rfl, a.2.2.2.2.2.2.2⟩
    · intro p j hp hj
      rw [k62, g2 (1 + 2 + p) (by omega), r _ (by omega) (by omega) (by omega)]
      exact b1 p j hp hj
    · intro i hi
      rw [k62, k11, c11 i hi, r66 i hi]
    · intro i hi
      rw [k62, g2 (1 + 11) (by omega), r _ (by omega) (by omega) (by omega)]
      exact b3 i hi
    · intro i hi
      rw [k62, g2 (1 + 12) (by omega), r _ (by omega) (by omega) (by omega)]
      exact b4 i hi
    · unfold rwA
      rw [k62, r 6 (by omega) (by omega) (by omega), r 7 (by omega) (by omega) (by omega)]
      exact ⟨pm, h8, hm, h6⟩
    · unfold rwB
      rw [k62, r 8 (by omega) (by omega) (by omega), r 9 (by omega) (by omega) (by omega), r 0 (by omega) (by omega) (by omega), r 1 (by omega) (by omega) (by omega), r 2 (by omega) (by omega) (by omega), r3, r4]
      exact ⟨c2.1, c2.2.1, c2.2.2.1, c2.2.2.2.1, c2.2.2.2.2.1, ⟨nt + 1, by omega, rfl⟩, ⟨_, chT_le h P', rfl⟩⟩
    · intro p hp
      rw [k62, r _ (by omega) (by omega) (by omega), r _ (by omega) (by omega) (by omega), r _ (by omega) (by omega) (by omega), r _ (by omega) (by omega) (by omega), r _ (by omega) (by omega) (by omega), r _ (by omega) (by omega) (by omega), r _ (by omega) (by omega) (by omega)]
      exact c3 p hp
    · intro p hp
      obtain ⟨he, e1, e2⟩ := c4 p hp
      exact ⟨he, e1, by rw [k62, r _ (by omega) (by omega) (by omega)]; exact e2⟩
    · intro i hi
      rw [k62, r66 i hi]
      refine ⟨⟨_, puT_le h P' i hi, rfl⟩, fun q => ?_⟩
      rw [puT_hi P' (fun i' a1 a2 => by
        obtain ⟨he, e1, e2⟩ := c4 i' a1
        have : heN M i' = he := by unfold heN; rw [e2, nI_clamp (by omega)]
        omega), (c5 i hi).2 q]
      rfl
  refine FS_rel r3 (fun c hc => ?_)
  by_cases q : c = 1 ∨ c = 11 ∨ c = 62
  · exact (g1 c q).symm
  · rw [g2 c q]
    exact hf c hc (by omega) (by omega) (by omega)
