/-! THE RELATION of the class's cells and the model's -/
def iN (x : Int32) (b : Nat) : Prop := ∃ n : Nat, n ≤ b ∧ x = nI n
/-- the class's step for the model's act and number -/
def encS (a w : Int32) : Int32 := if a = 1 then w else if a = 2 then 10000 + w else if a = 3 then 20033 else 20000 + a
/-- a house of the class at cell b, a row of the model at cell r -/
def hsR (M : xM) (b r : Nat) : Prop :=
  (M b 6 = M r 6 ∧ M b 7 = M r 7 ∧ M b 8 = M r 8 ∧ M b 9 = M r 9 ∧ M b 10 = M r 4 ∧ M b 11 = M r 0 ∧ M b 12 = M r 1 ∧ M b 13 = M r 2 ∧ M b 14 = M r 3 ∧ M b 15 = M r 5) ∧
  (∀ p j, p < 8 → j < 7 → M (b + 2 + p) j = M r (10 + 7 * p + j)) ∧
  (∀ i, i < 6 → M (b + 10) i = M r (66 + i)) ∧ (∀ i, i < 60 → M (b + 11) i = M r (72 + i)) ∧ (∀ i, i < 24 → M (b + 12) i = M r (132 + i)) ∧
  (M (b + 13) 2 = M r 156 ∧ ∀ k, k < (M r 156).toNatClampNeg → M (b + 14) k = encS (M r (157 + k)) (M r (217 + k))) ∧
  (M (b + 16) 2 = M r 277 ∧ ∀ k, k < (M r 277).toNatClampNeg → M (b + 17) k = encS (M r (278 + k)) (M r (338 + k)))
theorem hsR.frame {M M' : xM} {b r : Nat} (h : hsR M b r) (hb : ∀ c, b ≤ c → c ≤ b + 18 → M' c = M c) (hr : M' r = M r) : hsR M' b r := by
  have e (k : Nat) (hk : k ≤ 18) : M' (b + k) = M (b + k) := hb _ (by omega) (by omega)
  have e0 := hb b (Nat.le_refl _) (by omega)
  unfold hsR
  rw [hr, e0, e 10 (by omega), e 11 (by omega), e 12 (by omega), e 13 (by omega), e 14 (by omega), e 16 (by omega), e 17 (by omega)]
  exact ⟨h.1, fun p j hp hj => by rw [hb (b + 2 + p) (by omega) (by omega)]; exact h.2.1 p j hp hj, h.2.2⟩
/-- how many lie on the pile behind k steps -/
def stkT (a : Nat → Int32) : Nat → Option Nat
  | 0 => some 0
  | k + 1 => match stkT a k with
    | none => none
    | some d => if a k = 1 ∨ a k = 2 then some (d + 1) else if a k = 3 then (if 1 ≤ d then some d else none) else (if 2 ≤ d then some (d - 1) else none)
def sgnT (a : Int32) : Prop := a = 124 ∨ a = 38 ∨ a = 60 ∨ a = 61 ∨ a = 62 ∨ a = 43 ∨ a = 45 ∨ a = 42 ∨ a = 47 ∨ a = 37
def wfT (n : Int32) (a w : Nat → Int32) : Prop := ∃ k : Nat, k ≤ 60 ∧ n = nI k ∧ (k = 0 ∨ stkT a k = some 1) ∧ ∀ i, i < k → (a i = 1 ∧ iN (w i) 9999) ∨ (a i = 2 ∧ iN (w i) 2) ∨ a i = 3 ∨ sgnT (a i)
/-- the ranges of a row's numbers -/
def rwI (f : Nat → Int32) : Prop := ∃ P H : Nat, (f 6 = nI P ∧ P ≤ 8 ∧ f 7 = nI H ∧ H ≤ 6) ∧
  (iN (f 8) 60 ∧ iN (f 9) 24 ∧ iN (f 0) 40 ∧ iN (f 1) 23 ∧ iN (f 2) 1 ∧ iN (f 3) 9999 ∧ iN (f 4) 99999) ∧
  (∀ p, p < 8 → iN (f (10 + 7 * p + 0)) 6 ∧ iN (f (10 + 7 * p + 1)) 9 ∧ iN (f (10 + 7 * p + 2)) 3 ∧ iN (f (10 + 7 * p + 3)) 9 ∧ iN (f (10 + 7 * p + 4)) 9 ∧ iN (f (10 + 7 * p + 5)) 5 ∧ iN (f (10 + 7 * p + 6)) 99) ∧
  (∀ p, p < P → ∃ he, he < H ∧ f (10 + 7 * p + 5) = nI he) ∧
  (∀ i, i < 6 → iN (f (66 + i)) 99999 ∧ (H ≤ i → f (66 + i) = 0)) ∧
  (wfT (f 156) (fun k => f (157 + k)) (fun k => f (217 + k)) ∧ wfT (f 277) (fun k => f (278 + k)) (fun k => f (338 + k)))
/-- a number of a sheet, as each side keeps it -/
def numR (bits c m : Int32) : Prop := (bits = 8 → c = m &&& 255 ∧ m = m.toInt8.toInt32) ∧ (bits = 16 → c = m &&& 65535 ∧ m = m.toInt16.toInt32) ∧ (bits = 32 → c = m) ∧ (bits = 0 → c = 0 ∧ m = 0)
def shR (M : xM) : Prop := ∀ s, s < 4 → M (52 + 2 * s) 1 = M 65 s ∧ M (52 + 2 * s) 2 = M 66 s ∧ (M 65 s = 0 ∨ M 65 s = 8 ∨ M 65 s = 16 ∨ M 65 s = 32) ∧ iN (M 66 s) 24 ∧ (M 65 s = 0 → M 66 s = 0) ∧ ∀ i, i < 24 → numR (M 65 s) (M (53 + 2 * s) i) (M 67 (24 * s + i))
def erR (M : xM) : Prop := ∀ k, 1 ≤ k → k ≤ 6 → M 60 k = M 64 k
def kpR (M : xM) : Prop := M 0 7 = M 61 2 ∧ (¬ M 61 2 = 0 → hsR M 20 63 ∧ rwI (M 63))
def trR (M : xM) : Prop := M 49 1 = M 61 22 ∧ iN (M 61 22) 30 ∧ ∀ i, i < (M 61 22).toNatClampNeg → M 50 i = M 75 i
def Rel (M : xM) : Prop := (hsR M 1 62 ∧ rwI (M 62)) ∧ kpR M ∧ shR M ∧ erR M ∧ trR M ∧ M 61 7 = 0
theorem shR.frame {M M' : xM} (h : shR M) (h1 : ∀ c, 52 ≤ c → c ≤ 59 → M' c = M c) (h2 : M' 65 = M 65) (h3 : M' 66 = M 66) (h4 : M' 67 = M 67) : shR M' := by
  intro s hs
  have := h s hs
  rw [h2, h3, h4, h1 (52 + 2 * s) (by omega) (by omega), h1 (53 + 2 * s) (by omega) (by omega)]
  exact this
theorem kpR.frame {M M' : xM} (h : kpR M) (h1 : M' 0 7 = M 0 7) (h2 : M' 61 2 = M 61 2) (h3 : ∀ c, 20 ≤ c → c ≤ 38 → M' c = M c) (h4 : M' 63 = M 63) : kpR M' := by
  unfold kpR
  rw [h1, h2, h4]
  exact ⟨h.1, fun q => ⟨(h.2 q).1.frame h3 h4, (h.2 q).2⟩⟩
theorem trR.frame {M M' : xM} (h : trR M) (h1 : M' 49 1 = M 49 1) (h2 : M' 61 22 = M 61 22) (h3 : M' 50 = M 50) (h4 : M' 75 = M 75) : trR M' := by
  unfold trR
  rw [h1, h2, h3, h4]
  exact h
/-- an error on both sides -/
theorem Rel.err {M : xM} (k : Nat) (hk : 1 ≤ k ∧ k ≤ 6) (h : Rel M) : Rel (up (up M 60 k (M 60 k + 1)) 64 k ((up M 60 k (M 60 k + 1)) 64 k + 1)) := by
  refine ⟨⟨h.1.1.frame (fun c a b => by rw [up_ne (by omega), up_ne (by omega)]) (by rw [up_ne (by omega), up_ne (by omega)]), ?_⟩, h.2.1.frame rfl rfl (fun c a b => by rw [up_ne (by omega), up_ne (by omega)]) rfl, h.2.2.1.frame (fun c a b => by rw [up_ne (by omega), up_ne (by omega)]) rfl rfl rfl, fun j j1 j2 => ?_, h.2.2.2.2.1.frame rfl rfl rfl rfl, h.2.2.2.2.2⟩
  · exact h.1.2
  · rw [up_ne (show 60 ≠ 64 by omega), up_eq, up_eq, up_ne (show 64 ≠ 60 by omega)]
    have h1 := h.2.2.2.1 j j1 j2
    have h2 := h.2.2.2.1 k hk.1 hk.2
    by_cases e : j = k
    · subst e
      simp [upd, h1]
    · simp [upd, e, h1]
