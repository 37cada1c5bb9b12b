/-! OPERATION text: the parser, in numbers -/
/-- where a parse stands: place, steps laid, what they are, their numbers -/
abbrev tpS : Type := Nat × Nat × (Nat → Int32) × (Nat → Int32)
abbrev tpT : Type := Nat ⊕ tpS
def tp_psh (s : tpS) (a w : Int32) : tpS := (s.1, s.2.1 + 1, upd s.2.2.1 s.2.1 a, upd s.2.2.2 s.2.1 w)
def tp_adv (s : tpS) : tpS := (s.1 + 1, s.2)
def tp_lk (f : Nat → Int32) (L p : Nat) : Int32 := if p < L then f p else -1
def tp_lv (b : Int32) : Int32 := if b = 37 then 4 else if b = 38 then 1 else if b = 42 then 4 else if b = 43 then 3 else if b = 45 then 3 else if b = 47 then 4 else if b = 60 then 2 else if b = 61 then 2 else if b = 62 then 2 else if b = 124 then 0 else -1
def tp_nm0 (b : Int32) : Int32 := if b = 102 then 1 else if b = 107 then 2 else if b = 115 then 0 else -1
def tp_nm1 (b : Int32) : Int32 := if b = 104 then 2 else if b = 114 then 0 else if b = 119 then 1 else -1
def tp_nm (u : Nat) (b : Int32) : Int32 := if u = 0 then tp_nm0 b else tp_nm1 b
def tp_num (f : Nat → Int32) (L : Nat) : Nat → Nat → Int32 → Nat × Int32
  | 0, p, v => (p, v)
  | r + 1, p, v => if 48 ≤ tp_lk f L p ∧ tp_lk f L p ≤ 57 then tp_num f L r (p + 1) (v * 10 + tp_lk f L p - 48) else (p, v)
def tp_lp (f : Nat → Int32) (L : Nat) (l : Nat) (sub : tpS → tpT) : Nat → tpS → tpT
  | 0, s => .inr s
  | n + 1, s => if tp_lv (tp_lk f L s.1) = nI l then (match sub (tp_adv s) with
    | .inl p => .inl p
    | .inr s1 => if l = 2 then .inr (tp_psh s1 (tp_lk f L s.1) 0) else tp_lp f L l sub n (tp_psh s1 (tp_lk f L s.1) 0)) else .inr s
def tp_lev (f : Nat → Int32) (L : Nat) (one : tpS → tpT) : Nat → tpS → tpT
  | 0, s => one s
  | j + 1, s => match tp_lev f L one j s with
    | .inl p => .inl p
    | .inr s1 => tp_lp f L (4 - j) (fun z => tp_lev f L one j z) 60 s1
/-- a number, a name, or what k makes of it -/
def tp_at (f : Nat → Int32) (L u : Nat) (s : tpS) (k : tpT) : tpT := if 48 ≤ tp_lk f L s.1 ∧ tp_lk f L s.1 ≤ 57 then .inr (tp_psh ((tp_num f L 4 s.1 0).1, s.2) 1 (tp_num f L 4 s.1 0).2) else if 0 ≤ tp_nm u (tp_lk f L s.1) then .inr (tp_psh (tp_adv s) 2 (tp_nm u (tp_lk f L s.1))) else k
def tp_not (r : tpT) : tpT := match r with
  | .inl p => .inl p
  | .inr s => .inr (tp_psh s 3 0)
def tp_par (f : Nat → Int32) (L : Nat) (r : tpT) : tpT := match r with
  | .inl p => .inl p
  | .inr s => if tp_lk f L s.1 = 41 then .inr (tp_adv s) else .inl s.1
def tp_one (f : Nat → Int32) (L u : Nat) : Nat → tpS → tpT
  | 0 => fun s => tp_at f L u s (.inl s.1)
  | O + 1 => fun s => tp_at f L u s (if tp_lk f L s.1 = 33 then tp_not (tp_one f L u O (tp_adv s)) else if tp_lk f L s.1 = 40 then tp_par f L (tp_lev f L (tp_one f L u O) 5 (tp_adv s)) else .inl s.1)
/-- what a step may be -/
def tp_st (a w : Int32) : Prop := (a = 1 ∧ iN w 9999) ∨ (a = 2 ∧ iN w 2) ∨ a = 3 ∨ sgnT a
def tpO (L dep : Nat) (s : tpS) : Prop := s.1 ≤ L ∧ s.2.1 ≤ s.1 ∧ stkT s.2.2.1 s.2.1 = some dep ∧ ∀ i, i < s.2.1 → tp_st (s.2.2.1 i) (s.2.2.2 i)
def tpR (L dep : Nat) (s : tpS) (r : tpT) : Prop := match r with
  | .inl p => p ≤ L
  | .inr s1 => tpO L (dep + 1) s1 ∧ s.1 < s1.1 ∧ s1.2.1 + s.1 ≤ s1.1 + s.2.1
theorem upd_eq {f : Nat → Int32} {k : Nat} {x : Int32} : upd f k x k = x := if_pos rfl
theorem upd_ne {f : Nat → Int32} {k j : Nat} {x : Int32} (h : j ≠ k) : upd f k x j = f j := if_neg h
theorem stkT_psh {a : Nat → Int32} {k : Nat} {x : Int32} {dep : Nat} (h : stkT a k = some dep) : stkT (upd a k x) (k + 1) = if x = 1 ∨ x = 2 then some (dep + 1) else if x = 3 then (if 1 ≤ dep then some dep else none) else (if 2 ≤ dep then some (dep - 1) else none) := by
  have e : stkT (upd a k x) k = some dep := by
    rw [stkT_congr k (fun i hi => upd_ne (by omega))]
    exact h
  conv => lhs; unfold stkT
  rw [e]
  dsimp only
  rw [upd_eq]
theorem tpO_psh {L dep dep1 : Nat} {s : tpS} {a w : Int32} (h : tpO L dep s) (hs : s.2.1 + 1 ≤ s.1) (ha : tp_st a w) (he : (if a = 1 ∨ a = 2 then some (dep + 1) else if a = 3 then (if 1 ≤ dep then some dep else none) else (if 2 ≤ dep then some (dep - 1) else none)) = some dep1) : tpO L dep1 (tp_psh s a w) := by
  obtain ⟨h1, h2, h3, h4⟩ := h
  refine ⟨h1, hs, (stkT_psh h3).trans he, fun i hi => ?_⟩
  show tp_st (upd s.2.2.1 s.2.1 a i) (upd s.2.2.2 s.2.1 w i)
  by_cases q : i = s.2.1
  · rw [q, upd_eq, upd_eq]
    exact ha
  · rw [upd_ne q, upd_ne q]
    exact h4 i (by have : i < s.2.1 + 1 := hi; omega)
theorem tpO_at {L dep : Nat} {s : tpS} {p : Nat} (h : tpO L dep s) (h1 : s.1 ≤ p) (h2 : p ≤ L) : tpO L dep (p, s.2) := ⟨h2, Nat.le_trans h.2.1 h1, h.2.2⟩
theorem tp_lk_lt {f : Nat → Int32} {L p : Nat} (h : ¬ tp_lk f L p = -1) : p < L := by
  rcases Nat.lt_or_ge p L with q | q
  · exact q
  · exact absurd (if_neg (by omega)) h
theorem tp_lk_ge {f : Nat → Int32} {L p : Nat} (h : L ≤ p) : tp_lk f L p = -1 := if_neg (by omega)
theorem tp_dg_lt {f : Nat → Int32} {L p : Nat} (h : 48 ≤ tp_lk f L p ∧ tp_lk f L p ≤ 57) : p < L := tp_lk_lt (fun q => by rw [q] at h; exact absurd h.1 (by decide))
theorem tp_lv_lt {f : Nat → Int32} {L p l : Nat} (hl : l ≤ 4) (h : tp_lv (tp_lk f L p) = nI l) : p < L := tp_lk_lt (fun q => by
  rw [q] at h
  have e : l = 0 ∨ l = 1 ∨ l = 2 ∨ l = 3 ∨ l = 4 := by omega
  rcases e with rfl | rfl | rfl | rfl | rfl <;> exact absurd h (by decide))
theorem tp_nm_lt {f : Nat → Int32} {L p u : Nat} (h : 0 ≤ tp_nm u (tp_lk f L p)) : p < L := tp_lk_lt (fun q => by
  rw [q] at h
  unfold tp_nm at h
  split at h <;> exact absurd h (by decide))
theorem tp_sg {b : Int32} {l : Nat} (hl : l ≤ 4) (h : tp_lv b = nI l) : sgnT b := by
  rcases Classical.em (sgnT b) with hs | hs
  · exact hs
  · have e : tp_lv b = -1 := by
      unfold tp_lv
      unfold sgnT at hs
      rw [if_neg (fun q => hs (by rw [q]; decide)), if_neg (fun q => hs (by rw [q]; decide)), if_neg (fun q => hs (by rw [q]; decide)), if_neg (fun q => hs (by rw [q]; decide)), if_neg (fun q => hs (by rw [q]; decide)), if_neg (fun q => hs (by rw [q]; decide)), if_neg (fun q => hs (by rw [q]; decide)), if_neg (fun q => hs (by rw [q]; decide)), if_neg (fun q => hs (by rw [q]; decide)), if_neg (fun q => hs (by rw [q]; decide))]
    rw [e] at h
    have e : l = 0 ∨ l = 1 ∨ l = 2 ∨ l = 3 ∨ l = 4 := by omega
    rcases e with rfl | rfl | rfl | rfl | rfl <;> exact absurd h (by decide)
theorem tp_sgn {b : Int32} (h : sgnT b) : ¬ b = 1 ∧ ¬ b = 2 ∧ ¬ b = 3 := by
  unfold sgnT at h
  rcases h with rfl | rfl | rfl | rfl | rfl | rfl | rfl | rfl | rfl | rfl <;> decide
theorem tp_nm_in {u : Nat} {b : Int32} (h : 0 ≤ tp_nm u b) : iN (tp_nm u b) 2 := by
  unfold tp_nm tp_nm0 tp_nm1 at *
  split
  · split
    · exact ⟨1, by omega, rfl⟩
    · split
      · exact ⟨2, by omega, rfl⟩
      · split
        · exact ⟨0, by omega, rfl⟩
        · grind
  · split
    · exact ⟨2, by omega, rfl⟩
    · split
      · exact ⟨0, by omega, rfl⟩
      · split
        · exact ⟨1, by omega, rfl⟩
        · grind
theorem tp_num_in {f : Nat → Int32} {L : Nat} : ∀ (r p : Nat) (v : Int32) (B : Nat), p ≤ L → (∃ k, k < B ∧ v = nI k) → B * 10 ^ r ≤ 10000 → p ≤ (tp_num f L r p v).1 ∧ (tp_num f L r p v).1 ≤ L ∧ iN (tp_num f L r p v).2 9999 := by
  intro r
  induction r with
  | zero =>
    intro p v B hp hv hB
    obtain ⟨k, k1, k2⟩ := hv
    exact ⟨Nat.le_refl _, hp, k, by omega, k2⟩
  | succ r ih =>
    intro p v B hp hv hB
    obtain ⟨k, k1, k2⟩ := hv
    have hP : 1 ≤ 10 ^ r := Nat.one_le_pow _ _ (by omega)
    have hB2 : B * 10 * 10 ^ r ≤ 10000 := by rw [Nat.mul_assoc, Nat.mul_comm 10, ← Nat.pow_succ]; exact hB
    have hB3 : B * 10 ≤ 10000 := Nat.le_trans (Nat.le_mul_of_pos_right _ hP) hB2
    unfold tp_num
    by_cases h : 48 ≤ tp_lk f L p ∧ tp_lk f L p ≤ 57
    · rw [if_pos h]
      have hlt := tp_dg_lt h
      have hc : ∃ c, c ≤ 9 ∧ tp_lk f L p = nI (48 + c) := by
        rcases of_in (tp_lk f L p) (b := 57) (by omega) with ⟨n, n1, n2⟩ | q
        · rw [n2] at h
          have := (nI_leI (a := 48) (b := n) (by omega) (by omega)).mp h.1
          exact ⟨n - 48, by omega, by rw [n2]; congr 1; omega⟩
        · exact absurd ⟨by grind, h.2⟩ q
      obtain ⟨c, c1, c2⟩ := hc
      have w := ih (p + 1) (v * 10 + tp_lk f L p - 48) (B * 10) (by omega) ⟨k * 10 + c, by omega, by
        rw [c2, k2, show (10 : Int32) = nI 10 from rfl, pk_mul, nI_add, show (48 : Int32) = nI 48 from rfl, pk_sub (by omega)]
        congr 1
        omega⟩ hB2
      exact ⟨by omega, w.2.1, w.2.2⟩
    · rw [if_neg h]
      exact ⟨Nat.le_refl _, hp, k, by omega, k2⟩
theorem tp_num_lt {f : Nat → Int32} {L r p : Nat} {v : Int32} (h : 48 ≤ tp_lk f L p ∧ tp_lk f L p ≤ 57) (hv : v = 0) : p < (tp_num f L 4 p v).1 := by
  subst hv
  have hlt := tp_dg_lt h
  have e : tp_num f L 4 p 0 = tp_num f L 3 (p + 1) (0 * 10 + tp_lk f L p - 48) := if_pos h
  rw [e]
  have m : ∀ (r p : Nat) (v : Int32), p ≤ (tp_num f L r p v).1 := by
    intro r
    induction r with
    | zero => intro p v; exact Nat.le_refl p
    | succ r ih =>
      intro p v
      unfold tp_num
      split
      · have := ih (p + 1) (v * 10 + tp_lk f L p - 48); omega
      · exact Nat.le_refl p
  have := m 3 (p + 1) (0 * 10 + tp_lk f L p - 48)
  omega
theorem tp_at_ok {f : Nat → Int32} {L u dep : Nat} {s : tpS} {k : tpT} (h : tpO L dep s) (hk : tpR L dep s k) : tpR L dep s (tp_at f L u s k) := by
  unfold tp_at
  split
  · rename_i hd
    have w := tp_num_in (f := f) (L := L) 4 s.1 0 1 h.1 ⟨0, by omega, rfl⟩ (by decide)
    have w2 := tp_num_lt (r := 4) hd rfl
    have h2 := h.2.1
    refine ⟨tpO_psh (tpO_at h (by omega) w.2.1) (show s.2.1 + 1 ≤ _ by omega) (Or.inl ⟨rfl, w.2.2⟩) (if_pos (Or.inl rfl)), w2, ?_⟩
    show s.2.1 + 1 + s.1 ≤ (tp_num f L 4 s.1 0).1 + s.2.1
    omega
  · split
    · rename_i hn
      have hlt := tp_nm_lt hn
      have h2 := h.2.1
      refine ⟨tpO_psh (tpO_at h (by omega) hlt) (show s.2.1 + 1 ≤ s.1 + 1 by omega) (Or.inr (Or.inl ⟨rfl, tp_nm_in hn⟩)) (if_pos (Or.inr rfl)), Nat.lt_succ_self _, ?_⟩
      show s.2.1 + 1 + s.1 ≤ s.1 + 1 + s.2.1
      omega
    · exact hk
theorem tpR_sig {f : Nat → Int32} {L dep l : Nat} {s s0 s1 : tpS} (hl : l ≤ 4) (h : tp_lv (tp_lk f L s.1) = nI l) (h0 : s0.1 < s.1 ∧ s.2.1 + s0.1 ≤ s.1 + s0.2.1 ∧ s0.2.1 ≤ s0.1) (h1 : tpR L (dep + 1) (tp_adv s) (.inr s1)) : tpO L (dep + 1) (tp_psh s1 (tp_lk f L s.1) 0) ∧ s.1 < (tp_psh s1 (tp_lk f L s.1) 0).1 ∧ (tp_psh s1 (tp_lk f L s.1) 0).2.1 + s0.1 ≤ (tp_psh s1 (tp_lk f L s.1) 0).1 + s0.2.1 := by
  obtain ⟨a1, a2, a3⟩ := h1
  have g := tp_sg hl h
  have g2 := tp_sgn g
  have a2' : s.1 + 1 < s1.1 := a2
  have a3' : s1.2.1 + (s.1 + 1) ≤ s1.1 + s.2.1 := a3
  refine ⟨tpO_psh a1 (by omega) (Or.inr (Or.inr (Or.inr g))) ?_, ?_, ?_⟩
  · rw [if_neg (fun q => q.elim g2.1 g2.2.1), if_neg g2.2.2, if_pos (by omega)]
    rfl
  · show s.1 < s1.1
    omega
  · show s1.2.1 + 1 + s0.1 ≤ s1.1 + s0.2.1
    omega
theorem tpR_sg {f : Nat → Int32} {L dep l : Nat} {s s1 : tpS} (hl : l ≤ 4) (h : tp_lv (tp_lk f L s.1) = nI l) (h2 : s.2.1 ≤ s.1) (h1 : tpR L (dep + 1) (tp_adv s) (.inr s1)) : tpO L (dep + 1) (tp_psh s1 (tp_lk f L s.1) 0) := by
  obtain ⟨a1, a2, a3⟩ := h1
  have g := tp_sg hl h
  have g2 := tp_sgn g
  have a3' : s1.2.1 + (s.1 + 1) ≤ s1.1 + s.2.1 := a3
  refine tpO_psh a1 (by omega) (Or.inr (Or.inr (Or.inr g))) ?_
  rw [if_neg (fun q => q.elim g2.1 g2.2.1), if_neg g2.2.2, if_pos (by omega)]
  rfl
theorem tp_one_0 {f : Nat → Int32} {L u : Nat} {s : tpS} : tp_one f L u 0 s = tp_at f L u s (.inl s.1) := rfl
theorem tp_one_s {f : Nat → Int32} {L u O : Nat} {s : tpS} : tp_one f L u (O + 1) s = tp_at f L u s (if tp_lk f L s.1 = 33 then tp_not (tp_one f L u O (tp_adv s)) else if tp_lk f L s.1 = 40 then tp_par f L (tp_lev f L (tp_one f L u O) 5 (tp_adv s)) else .inl s.1) := rfl
theorem tp_lp_ok {f : Nat → Int32} {L l dep : Nat} {sub : tpS → tpT} (hl : l ≤ 4) (hsub : ∀ s dep, tpO L dep s → tpR L dep s (sub s)) {s0 : tpS} (h00 : s0.2.1 ≤ s0.1) : ∀ n s, tpO L (dep + 1) s → s0.1 < s.1 → s.2.1 + s0.1 ≤ s.1 + s0.2.1 → tpR L dep s0 (tp_lp f L l sub n s) := by
  intro n
  induction n with
  | zero => intro s h h1 h2; exact ⟨h, h1, h2⟩
  | succ n ih =>
    intro s h h1 h2
    unfold tp_lp
    split
    · rename_i hv
      have hlt := tp_lv_lt hl hv
      have w := hsub (tp_adv s) (dep + 1) (tpO_at h (by omega) hlt)
      split
      · rename_i p e
        rw [e] at w
        exact w
      · rename_i s1 e
        rw [e] at w
        obtain ⟨b1, b2, b3⟩ := tpR_sig hl hv ⟨h1, h2, h00⟩ w
        split
        · exact ⟨b1, by omega, b3⟩
        · exact ih _ b1 (by omega) b3
    · exact ⟨h, h1, h2⟩
theorem tp_lev_ok {f : Nat → Int32} {L : Nat} {one : tpS → tpT} (hone : ∀ s dep, tpO L dep s → tpR L dep s (one s)) : ∀ j s dep, tpO L dep s → tpR L dep s (tp_lev f L one j s) := by
  intro j
  induction j with
  | zero => intro s dep h; exact hone s dep h
  | succ j ih =>
    intro s dep h
    unfold tp_lev
    have w := ih s dep h
    split
    · rename_i p e
      rw [e] at w
      exact w
    · rename_i s1 e
      rw [e] at w
      exact tp_lp_ok (by omega) (fun s dep h => ih s dep h) h.2.1 60 s1 w.1 w.2.1 w.2.2
theorem tp_one_ok {f : Nat → Int32} {L u : Nat} : ∀ O s dep, tpO L dep s → tpR L dep s (tp_one f L u O s) := by
  intro O
  induction O with
  | zero => intro s dep h; rw [tp_one_0]; exact tp_at_ok h (show s.1 ≤ L from h.1)
  | succ O ih =>
    intro s dep h
    have h2 := h.2.1
    rw [tp_one_s]
    refine tp_at_ok h ?_
    split
    · rename_i e
      have hlt : s.1 < L := tp_lk_lt (fun q => by rw [q] at e; exact absurd e (by decide))
      have w := ih (tp_adv s) dep (tpO_at h (by omega) hlt)
      unfold tp_not
      split
      · rename_i p e1
        rw [e1] at w
        exact w
      · rename_i s1 e1
        rw [e1] at w
        obtain ⟨a1, a2, a3⟩ := w
        have a2' : s.1 + 1 < s1.1 := a2
        have a3' : s1.2.1 + (s.1 + 1) ≤ s1.1 + s.2.1 := a3
        refine ⟨tpO_psh a1 (by omega) (Or.inr (Or.inr (Or.inl rfl))) ?_, ?_, ?_⟩
        · rw [if_neg (by decide), if_pos rfl, if_pos (by omega)]
        · show s.1 < s1.1
          omega
        · show s1.2.1 + 1 + s.1 ≤ s1.1 + s.2.1
          omega
    · split
      · rename_i e0 e
        have hlt : s.1 < L := tp_lk_lt (fun q => by rw [q] at e; exact absurd e (by decide))
        have w := tp_lev_ok (f := f) ih 5 (tp_adv s) dep (tpO_at h (by omega) hlt)
        unfold tp_par
        split
        · rename_i p e1
          rw [e1] at w
          exact w
        · rename_i s1 e1
          rw [e1] at w
          obtain ⟨a1, a2, a3⟩ := w
          have a2' : s.1 + 1 < s1.1 := a2
          have a3' : s1.2.1 + (s.1 + 1) ≤ s1.1 + s.2.1 := a3
          have q1 := a1.1
          split
          · rename_i e2
            have hlt2 : s1.1 < L := tp_lk_lt (fun q => by rw [q] at e2; exact absurd e2 (by decide))
            refine ⟨tpO_at a1 (by omega) hlt2, ?_, ?_⟩
            · show s.1 < s1.1 + 1
              omega
            · show s1.2.1 + s.1 ≤ s1.1 + 1 + s.2.1
              omega
          · exact q1
      · exact h.1
