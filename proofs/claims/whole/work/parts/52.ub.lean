/-! ROUNDS: what texts make of a pane and of strokes -/
def flN (M : xM) (p : Nat) : Nat := (M 62 (10 + 7 * p + 4)).toNatClampNeg
def heN (M : xM) (p : Nat) : Nat := (M 62 (10 + 7 * p + 5)).toNatClampNeg
def woN (M : xM) (p : Nat) : Nat := (M 62 (10 + 7 * p + 6)).toNatClampNeg
def tkX (M : xM) (a b c : Int32) : Int32 := heldX (lawX 0 (M 62 156).toNatClampNeg (fun i => M 62 (157 + i)) (fun i => M 62 (217 + i)) a b c) 1 9
def vlX (M : xM) (a b c : Int32) : Int32 := heldX (lawX 1 (M 62 277).toNatClampNeg (fun i => M 62 (278 + i)) (fun i => M 62 (338 + i)) a b c) 0 9999
def tkN (M : xM) (p s : Nat) : Nat := (tkX M (nI s) (nI (flN M p)) (nI (kdN M p))).toNatClampNeg
def vlN (M : xM) (p r : Nat) : Nat := (vlX M (nI r) (nI (woN M p)) (nI (heN M p))).toNatClampNeg
theorem heldX_in {v : Int32} {a b : Nat} (hab : a ≤ b) (hb : b < 2 ^ 30) : ∃ n, a ≤ n ∧ n ≤ b ∧ heldX v (nI a) (nI b) = nI n := by
  have h0 := nI_pos' (n := a) (by omega)
  have h1 := nI_le hab (show b < 2 ^ 31 by omega)
  have key : nI a ≤ heldX v (nI a) (nI b) ∧ heldX v (nI a) (nI b) ≤ nI b := by
    unfold heldX
    grind
  rcases of_in (heldX v (nI a) (nI b)) (b := b) (by omega) with ⟨n, n1, n2⟩ | q
  · refine ⟨n, ?_, n1, n2⟩
    rw [n2] at key
    exact (nI_leI (by omega) (by omega)).mp key.1
  · exact absurd ⟨by grind, key.2⟩ q
theorem tkN_in (M : xM) (p s : Nat) : tkX M (nI s) (nI (flN M p)) (nI (kdN M p)) = nI (tkN M p s) ∧ 1 ≤ tkN M p s ∧ tkN M p s ≤ 9 := by
  obtain ⟨n, n1, n2, n3⟩ := heldX_in (v := lawX 0 (M 62 156).toNatClampNeg (fun i => M 62 (157 + i)) (fun i => M 62 (217 + i)) (nI s) (nI (flN M p)) (nI (kdN M p))) (a := 1) (b := 9) (by omega) (by omega)
  have n4 : tkX M (nI s) (nI (flN M p)) (nI (kdN M p)) = nI n := n3
  unfold tkN
  rw [n4, nI_clamp (by omega)]
  exact ⟨rfl, n1, n2⟩
theorem vlN_in (M : xM) (p r : Nat) : vlX M (nI r) (nI (woN M p)) (nI (heN M p)) = nI (vlN M p r) ∧ vlN M p r ≤ 9999 := by
  obtain ⟨n, n1, n2, n3⟩ := heldX_in (v := lawX 1 (M 62 277).toNatClampNeg (fun i => M 62 (278 + i)) (fun i => M 62 (338 + i)) (nI r) (nI (woN M p)) (nI (heN M p))) (a := 0) (b := 9999) (by omega) (by omega)
  have n4 : vlX M (nI r) (nI (woN M p)) (nI (heN M p)) = nI n := n3
  unfold vlN
  rw [n4, nI_clamp (by omega)]
  exact ⟨rfl, n2⟩
/-- M is M0 but for what acts leave behind -/
def FR (M0 M : xM) : Prop := (∀ c, c ≠ 16 → c ≠ 19 → ¬ (39 ≤ c ∧ c ≤ 44) → c ≠ 61 → ¬ (70 ≤ c ∧ c ≤ 74) → M c = M0 c) ∧ M 61 2 = M0 61 2 ∧ M 61 22 = M0 61 22
theorem FR_refl {M : xM} : FR M M := ⟨fun _ _ _ _ _ _ => rfl, rfl, rfl⟩
theorem FR_rel {M0 M : xM} (h : Rel M0) (hf : FR M0 M) (h7 : M 61 7 = 0) : Rel M :=
  h.irr (fun c a b c1 d e => hf.1 c a b (by omega) d (by omega)) hf.2.1 h7 hf.2.2
/-- the class worked out a text -/
def VX (M M' : xM) : Prop := ∀ c, c ≠ 16 → c ≠ 19 → c ≠ 40 → c ≠ 41 → M' c = M c
/-- the model worked out a text -/
def VM (M M' : xM) : Prop := ∀ c, c ≠ 70 → c ≠ 71 → M' c = M c
/-- the class's house in M is that of M0, but for purses, church, nights -/
def FC (M0 M : xM) : Prop := (∀ c, 2 ≤ c → c ≤ 18 → c ≠ 11 → c ≠ 16 → M c = M0 c) ∧ ∀ j, j ≠ 10 → j ≠ 14 → M 1 j = M0 1 j
/-- the model's row in M is that of M0, but for purses, church, nights -/
def FM (M0 M : xM) : Prop := ∀ j, j ≠ 3 → j ≠ 4 → ¬ (66 ≤ j ∧ j ≤ 71) → M 62 j = M0 62 j
theorem FC_refl {M : xM} : FC M M := ⟨fun _ _ _ _ _ => rfl, fun _ _ _ => rfl⟩
theorem FM_refl {M : xM} : FM M M := fun _ _ _ _ => rfl
theorem FC_VX {M0 M M' : xM} (hf : FC M0 M) (h : VX M M') : FC M0 M' :=
  ⟨fun c a b d e => (h c (by omega) (by omega) (by omega) (by omega)).trans (hf.1 c a b d e), fun j a b => (congrFun (h 1 (by omega) (by omega) (by omega) (by omega)) j).trans (hf.2 j a b)⟩
theorem FM_VM {M0 M M' : xM} (hf : FM M0 M) (h : VM M M') : FM M0 M' := fun j a b c => (congrFun (h 62 (by omega) (by omega)) j).trans (hf j a b c)
theorem FC_up {M0 M : xM} {k j : Nat} {v : Int32} (hf : FC M0 M) (h : k = 11 ∨ (18 < k)) : FC M0 (up M k j v) :=
  ⟨fun c a b d e => (up_ne (by omega)).trans (hf.1 c a b d e), fun i a b => (congrFun (up_ne (by omega)) i).trans (hf.2 i a b)⟩
theorem FM_up {M0 M : xM} {k j : Nat} {v : Int32} (hf : FM M0 M) (h : k ≠ 62) : FM M0 (up M k j v) := fun i a b c => (congrFun (up_ne (Ne.symm h)) i).trans (hf i a b c)
/-- what is noted is what texts make of it -/
def Memo (M0 M : xM) : Prop := ∀ p r, p < 8 → r < 16 → (M 40 (p * 16 + r) = -1 ∨ M 40 (p * 16 + r) = nI (vlN M0 p r)) ∧ (M 41 (p * 16 + r) = -1 ∨ M 41 (p * 16 + r) = nI (tkN M0 p r))
theorem Memo.frame {M0 M M' : xM} (h : Memo M0 M) (h1 : M' 40 = M 40) (h2 : M' 41 = M 41) : Memo M0 M' := by
  intro p r hp hr
  rw [h1, h2]
  exact h p r hp hr
theorem Memo.up40 {M0 M : xM} (h : Memo M0 M) {p r : Nat} (hp : p < 8) (hr : r < 16) : Memo M0 (up M 40 (p * 16 + r) (nI (vlN M0 p r))) := by
  intro q s hq hs
  obtain ⟨a, b⟩ := h q s hq hs
  refine ⟨?_, by rw [up_ne (by omega)]; exact b⟩
  rw [up_rd]
  by_cases e : q = p ∧ s = r
  · obtain ⟨rfl, rfl⟩ := e
    rw [if_pos ⟨rfl, rfl⟩]; exact Or.inr rfl
  · rw [if_neg (by omega)]; exact a
theorem Memo.up41 {M0 M : xM} (h : Memo M0 M) {p r : Nat} (hp : p < 8) (hr : r < 16) : Memo M0 (up M 41 (p * 16 + r) (nI (tkN M0 p r))) := by
  intro q s hq hs
  obtain ⟨a, b⟩ := h q s hq hs
  refine ⟨by rw [up_ne (by omega)]; exact a, ?_⟩
  rw [up_rd]
  by_cases e : q = p ∧ s = r
  · obtain ⟨rfl, rfl⟩ := e
    rw [if_pos ⟨rfl, rfl⟩]; exact Or.inr rfl
  · rw [if_neg (by omega)]; exact b
/-- a pane's numbers in M, by M0's names -/
theorem fc_pane {M0 M : xM} (h : Rel M0) (hf : FC M0 M) {p : Nat} (hp : p < 8) : paneF M (3 + p) (kdN M0 p) (mqN M0 p) (fcN M0 p) (clN M0 p) ∧ M (3 + p) 4 = nI (flN M0 p) ∧ M (3 + p) 5 = nI (heN M0 p) ∧ M (3 + p) 6 = nI (woN M0 p) ∧ M (3 + p) 0 = nI (kdN M0 p) ∧ heN M0 p ≤ 5 := by
  have e1 : M (3 + p) = M0 (3 + p) := hf.1 _ (by omega) (by omega) (by omega) (by omega)
  obtain ⟨P, H, h8, h6, pm, hm, px, hx, a, b1, b2, b3, b4, c2, c3, c4, c5⟩ := rel_all h
  obtain ⟨q1, q2⟩ := rel_pn h
  obtain ⟨-, -, -, -, d4, d5, d6⟩ := c3 p hp
  have g4 := iN_c d4 (by omega)
  have g5 := iN_c d5 (by omega)
  have g6 := iN_c d6 (by omega)
  unfold paneF
  rw [e1]
  exact ⟨q1 p hp, (b1 p 4 hp (by omega)).trans g4.1, (b1 p 5 hp (by omega)).trans g5.1, (b1 p 6 hp (by omega)).trans g6.1, (q1 p hp).1, g5.2⟩
theorem fm_pane {M0 M : xM} (h : Rel M0) (hf : FM M0 M) {p : Nat} (hp : p < 8) : rpF M p (kdN M0 p) (mqN M0 p) (fcN M0 p) (clN M0 p) ∧ M 62 (10 + 7 * p + 4) = nI (flN M0 p) ∧ M 62 (10 + 7 * p + 5) = nI (heN M0 p) ∧ M 62 (10 + 7 * p + 6) = nI (woN M0 p) ∧ M 62 (10 + 7 * p + 0) = nI (kdN M0 p) ∧ heN M0 p ≤ 5 := by
  obtain ⟨P, H, h8, h6, pm, hm, px, hx, a, b1, b2, b3, b4, c2, c3, c4, c5⟩ := rel_all h
  obtain ⟨q1, q2⟩ := rel_pn h
  obtain ⟨-, -, -, -, d4, d5, d6⟩ := c3 p hp
  have g4 := iN_c d4 (by omega)
  have g5 := iN_c d5 (by omega)
  have g6 := iN_c d6 (by omega)
  unfold rpF
  rw [hf _ (by omega) (by omega) (by omega), hf _ (by omega) (by omega) (by omega), hf _ (by omega) (by omega) (by omega), hf _ (by omega) (by omega) (by omega), hf _ (by omega) (by omega) (by omega), hf _ (by omega) (by omega) (by omega), hf _ (by omega) (by omega) (by omega)]
  exact ⟨q2 p hp, g4.1, g5.1, g6.1, (q2 p hp).1, g5.2⟩
set_option maxRecDepth 100000 in
set_option maxHeartbeats 4000000 in
theorem c_tookByE {ro : xRO} {d : Nat} {M : xM} {T : Nat} {M0 : xM} (h0 : Rel M0) (hf : FC M0 M) {a b c : Int32} : Rn ro (d + 3) M_X0_tookBy 0 [some (.ref 4), some (.int a), some (.int b), some (.int c)] [] (mk M T) (fun r h => ∃ g : Nat → Int32, True ∧ r = some (.int (tkX M0 a b c)) ∧ h = mk (upA M 16 g) T) := by
  obtain ⟨k, x1, x2, x3, x4, x5, x6⟩ := (rel_tx h0).1
  have e1 : M 14 = M0 14 := hf.1 _ (by omega) (by omega) (by omega) (by omega)
  have e2 : M 15 = M0 15 := hf.1 _ (by omega) (by omega) (by omega) (by omega)
  refine (c_tookBy (M := M) (a := a) (b := b) (c := c) (by rw [e1]; exact x1) x3 (fun i hi => by rw [e2]; exact x4 i hi) x5 x6).imp (fun _ _ q => ⟨_, trivial, ?_, q.2⟩)
  rw [q.1]
  unfold tkX
  rw [x2, nI_clamp (by omega)]
set_option maxRecDepth 100000 in
set_option maxHeartbeats 4000000 in
theorem m_gives0E {ro : xRO} {d : Nat} {M : xM} {T : Nat} {M0 : xM} (h0 : Rel M0) (hf : FM M0 M) {a b c : Int32} : Rn ro (d + 3) M_X8_gives 0 [some (.ref 64), some (.int 0), some (.int a), some (.int b), some (.int c), none, none] [] (mk M T) (fun r h => ∃ M', VM M M' ∧ r = some (.int (tkX M0 a b c)) ∧ h = mk M' T) := by
  obtain ⟨k, x1, x2, x3, x4, x5, x6⟩ := (rel_tx h0).1
  refine (m_gives0 (M := M) (a := a) (b := b) (c := c) ((hf _ (by omega) (by omega) (by omega)).trans x2) x3 (fun i hi => hf _ (by omega) (by omega) (by omega)) (fun i hi => hf _ (by omega) (by omega) (by omega)) x5 x6).imp (fun _ _ q => ⟨_, ?_, ?_, q.2⟩)
  · intro c a b
    rw [upA_ne b, up_ne a, up_ne a, up_ne a]
  · rw [q.1]
    unfold tkX
    rw [x2, nI_clamp (by omega)]
set_option maxRecDepth 100000 in
set_option maxHeartbeats 4000000 in
theorem c_valueByE {ro : xRO} {d : Nat} {M : xM} {T : Nat} {M0 : xM} (h0 : Rel M0) (hf : FC M0 M) {a b c : Int32} : Rn ro (d + 3) M_X0_valueBy 0 [some (.ref 4), some (.int a), some (.int b), some (.int c)] [] (mk M T) (fun r h => ∃ g : Nat → Int32, True ∧ r = some (.int (vlX M0 a b c)) ∧ h = mk (upA M 19 g) T) := by
  obtain ⟨k, x1, x2, x3, x4, x5, x6⟩ := (rel_tx h0).2
  have e1 : M 17 = M0 17 := hf.1 _ (by omega) (by omega) (by omega) (by omega)
  have e2 : M 18 = M0 18 := hf.1 _ (by omega) (by omega) (by omega) (by omega)
  refine (c_valueBy (M := M) (a := a) (b := b) (c := c) (by rw [e1]; exact x1) x3 (fun i hi => by rw [e2]; exact x4 i hi) x5 x6).imp (fun _ _ q => ⟨_, trivial, ?_, q.2⟩)
  rw [q.1]
  unfold vlX
  rw [x2, nI_clamp (by omega)]
set_option maxRecDepth 100000 in
set_option maxHeartbeats 4000000 in
theorem m_gives1E {ro : xRO} {d : Nat} {M : xM} {T : Nat} {M0 : xM} (h0 : Rel M0) (hf : FM M0 M) {a b c : Int32} : Rn ro (d + 3) M_X8_gives 0 [some (.ref 64), some (.int 1), some (.int a), some (.int b), some (.int c), none, none] [] (mk M T) (fun r h => ∃ M', VM M M' ∧ r = some (.int (vlX M0 a b c)) ∧ h = mk M' T) := by
  obtain ⟨k, x1, x2, x3, x4, x5, x6⟩ := (rel_tx h0).2
  refine (m_gives1 (M := M) (a := a) (b := b) (c := c) ((hf _ (by omega) (by omega) (by omega)).trans x2) x3 (fun i hi => hf _ (by omega) (by omega) (by omega)) (fun i hi => hf _ (by omega) (by omega) (by omega)) x5 x6).imp (fun _ _ q => ⟨_, ?_, ?_, q.2⟩)
  · intro c a b
    rw [upA_ne b, up_ne a, up_ne a, up_ne a]
  · rw [q.1]
    unfold vlX
    rw [x2, nI_clamp (by omega)]
