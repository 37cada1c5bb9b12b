/-! THE RELATION of the class's cells and the model's -/
def iN (x : Int32) (b : Nat) : Prop := ∃ n : Nat, n ≤ b ∧ x = nI n
/-- the class's step for the model's act and number -/
def encS (a w : Int32) : Int32 := if a = 1 then w else if a = 2 then 10000 + w else if a = 3 then 20033 else 20000 + a
/-- a house of the class at cell b, a row of the model at cell r: numbers, panes, purses, tape, what waits, texts -/
def hsA (M : xM) (b r : Nat) : Prop := M b 6 = M r 6 ∧ M b 7 = M r 7 ∧ M b 8 = M r 8 ∧ M b 9 = M r 9 ∧ M b 10 = M r 4 ∧ M b 11 = M r 0 ∧ M b 12 = M r 1 ∧ M b 13 = M r 2 ∧ M b 14 = M r 3 ∧ M b 15 = M r 5
def hsB (M : xM) (b r : Nat) : Prop := ∀ p j, p < 8 → j < 7 → M (b + 2 + p) j = M r (10 + 7 * p + j)
def hsC (M : xM) (b r : Nat) : Prop := ∀ i, i < 6 → M (b + 10) i = M r (66 + i)
def hsD (M : xM) (b r : Nat) : Prop := ∀ i, i < 60 → M (b + 11) i = M r (72 + i)
def hsE (M : xM) (b r : Nat) : Prop := ∀ i, i < 24 → M (b + 12) i = M r (132 + i)
def hsT (M : xM) (b r : Nat) : Prop := (M (b + 13) 2 = M r 156 ∧ ∀ k, k < (M r 156).toNatClampNeg → M (b + 14) k = encS (M r (157 + k)) (M r (217 + k))) ∧
  (M (b + 16) 2 = M r 277 ∧ ∀ k, k < (M r 277).toNatClampNeg → M (b + 17) k = encS (M r (278 + k)) (M r (338 + k)))
def hsR (M : xM) (b r : Nat) : Prop := hsA M b r ∧ hsB M b r ∧ hsC M b r ∧ hsD M b r ∧ hsE M b r ∧ hsT M b r
theorem hsT.frame {M M' : xM} {b r : Nat} (h : hsT M b r) (hb : ∀ c, b + 13 ≤ c → c ≤ b + 18 → M' c = M c) (hr : ∀ j, 156 ≤ j → M' r j = M r j) : hsT M' b r := by
  unfold hsT
  rw [hr 156 (by omega), hr 277 (by omega), hb (b + 13) (by omega) (by omega), hb (b + 14) (by omega) (by omega), hb (b + 16) (by omega) (by omega), hb (b + 17) (by omega) (by omega)]
  exact ⟨⟨h.1.1, fun k hk => by rw [hr _ (by omega), hr _ (by omega)]; exact h.1.2 k hk⟩, h.2.1, fun k hk => by rw [hr _ (by omega), hr _ (by omega)]; exact h.2.2 k hk⟩
theorem hsR.frame {M M' : xM} {b r : Nat} (h : hsR M b r) (hb : ∀ c, b ≤ c → c ≤ b + 18 → M' c = M c) (hr : M' r = M r) : hsR M' b r := by
  obtain ⟨h1, h2, h3, h4, h5, h6⟩ := h
  refine ⟨?_, fun p j hp hj => ?_, fun i hi => ?_, fun i hi => ?_, fun i hi => ?_, h6.frame (fun c a b => hb c (by omega) (by omega)) (fun j _ => by rw [hr])⟩
  · unfold hsA
    rw [hr, hb b (by omega) (by omega)]
    exact h1
  · rw [hr, hb _ (by omega) (by omega)]
    exact h2 p j hp hj
  · rw [hr, hb _ (by omega) (by omega)]
    exact h3 i hi
  · rw [hr, hb _ (by omega) (by omega)]
    exact h4 i hi
  · rw [hr, hb _ (by omega) (by omega)]
    exact h5 i hi
/-- how many lie on the pile behind k steps -/
def stkT (a : Nat → Int32) : Nat → Option Nat
  | 0 => some 0
  | k + 1 => match stkT a k with
    | none => none
    | some d => if a k = 1 ∨ a k = 2 then some (d + 1) else if a k = 3 then (if 1 ≤ d then some d else none) else (if 2 ≤ d then some (d - 1) else none)
def sgnT (a : Int32) : Prop := a = 124 ∨ a = 38 ∨ a = 60 ∨ a = 61 ∨ a = 62 ∨ a = 43 ∨ a = 45 ∨ a = 42 ∨ a = 47 ∨ a = 37
def wfT (n : Int32) (a w : Nat → Int32) : Prop := ∃ k : Nat, k ≤ 60 ∧ n = nI k ∧ (k = 0 ∨ stkT a k = some 1) ∧ ∀ i, i < k → (a i = 1 ∧ iN (w i) 9999) ∨ (a i = 2 ∧ iN (w i) 2) ∨ a i = 3 ∨ sgnT (a i)
/-- the ranges of a row's numbers -/
def rwA (f : Nat → Int32) (P H : Nat) : Prop := f 6 = nI P ∧ P ≤ 8 ∧ f 7 = nI H ∧ H ≤ 6
def rwB (f : Nat → Int32) : Prop := iN (f 8) 60 ∧ iN (f 9) 24 ∧ iN (f 0) 40 ∧ iN (f 1) 23 ∧ iN (f 2) 1 ∧ iN (f 3) 9999 ∧ iN (f 4) 99999
def rwC (f : Nat → Int32) : Prop := ∀ p, p < 8 → iN (f (10 + 7 * p + 0)) 6 ∧ iN (f (10 + 7 * p + 1)) 9 ∧ iN (f (10 + 7 * p + 2)) 3 ∧ iN (f (10 + 7 * p + 3)) 9 ∧ iN (f (10 + 7 * p + 4)) 9 ∧ iN (f (10 + 7 * p + 5)) 5 ∧ iN (f (10 + 7 * p + 6)) 99
def rwD (f : Nat → Int32) (P H : Nat) : Prop := ∀ p, p < P → ∃ he, he < H ∧ f (10 + 7 * p + 5) = nI he
def rwE (f : Nat → Int32) (H : Nat) : Prop := ∀ i, i < 6 → iN (f (66 + i)) 99999 ∧ (H ≤ i → f (66 + i) = 0)
def rwT (f : Nat → Int32) : Prop := wfT (f 156) (fun k => f (157 + k)) (fun k => f (217 + k)) ∧ wfT (f 277) (fun k => f (278 + k)) (fun k => f (338 + k))
def rwI (f : Nat → Int32) : Prop := ∃ P H : Nat, rwA f P H ∧ rwB f ∧ rwC f ∧ rwD f P H ∧ rwE f H ∧ rwT f
theorem rwT.frame {f f' : Nat → Int32} (h : rwT f) (hr : ∀ j, 156 ≤ j → f' j = f j) : rwT f' := by
  unfold rwT
  rw [hr 156 (by omega), hr 277 (by omega), show (fun k => f' (157 + k)) = fun k => f (157 + k) from funext fun k => hr _ (by omega), show (fun k => f' (217 + k)) = fun k => f (217 + k) from funext fun k => hr _ (by omega), show (fun k => f' (278 + k)) = fun k => f (278 + k) from funext fun k => hr _ (by omega), show (fun k => f' (338 + k)) = fun k => f (338 + k) from funext fun k => hr _ (by omega)]
  exact h
/-- a number of a sheet, as each side keeps it -/
def numR (bits c m : Int32) : Prop := (bits = 8 → c = m &&& 255 ∧ m = m.toInt8.toInt32) ∧ (bits = 16 → c = m &&& 65535 ∧ m = m.toInt16.toInt32) ∧ (bits = 32 → c = m) ∧ (bits = 0 → c = 0 ∧ m = 0)
def shR (M : xM) : Prop := ∀ s, s < 4 → M (52 + 2 * s) 1 = M 65 s ∧ M (52 + 2 * s) 2 = M 66 s ∧ (M 65 s = 0 ∨ M 65 s = 8 ∨ M 65 s = 16 ∨ M 65 s = 32) ∧ iN (M 66 s) 24 ∧ (M 65 s = 0 → M 66 s = 0) ∧ ∀ i, i < 24 → numR (M 65 s) (M (53 + 2 * s) i) (M 67 (24 * s + i))
def erR (M : xM) : Prop := ∀ k, 1 ≤ k → k ≤ 6 → M 60 k = M 64 k
def kpR (M : xM) : Prop := M 0 7 = M 61 2 ∧ (¬ M 61 2 = 0 → hsR M 20 63 ∧ rwI (M 63))
def trR (M : xM) : Prop := M 49 1 = M 61 22 ∧ iN (M 61 22) 30 ∧ ∀ i, i < (M 61 22).toNatClampNeg → M 50 i = M 75 i
def Rel (M : xM) : Prop := (hsR M 1 62 ∧ rwI (M 62)) ∧ kpR M ∧ shR M ∧ erR M ∧ trR M ∧ M 61 7 = 0
theorem shR.frame {M M' : xM} (h : shR M) (h1 : ∀ c, 52 ≤ c → c ≤ 59 → M' c = M c) (h2 : M' 65 = M 65) (h3 : M' 66 = M 66) (h4 : M' 67 = M 67) : shR M' := by
  intro s hs
  have := h s hs
  rw [h2, h3, h4, h1 (52 + 2 * s) (by omega) (by omega), h1 (53 + 2 * s) (by omega) (by omega)]
  exact this
theorem kpR.frame {M M' : xM} (h : kpR M) (h1 : M' 0 7 = M 0 7) (h2 : M' 61 2 = M 61 2) (h3 : ∀ c, 20 ≤ c → c ≤ 38 → M' c = M c) (h4 : M' 63 = M 63) : kpR M' := by
  unfold kpR
  rw [h1, h2, h4]
  exact ⟨h.1, fun q => ⟨(h.2 q).1.frame h3 h4, (h.2 q).2⟩⟩
theorem trR.frame {M M' : xM} (h : trR M) (h1 : M' 49 1 = M 49 1) (h2 : M' 61 22 = M 61 22) (h3 : M' 50 = M 50) (h4 : M' 75 = M 75) : trR M' := by
  unfold trR
  rw [h1, h2, h3, h4]
  exact h
/-- an error on both sides -/
theorem Rel.err {M : xM} (k : Nat) (hk : 1 ≤ k ∧ k ≤ 6) (h : Rel M) : Rel (up (up M 60 k (M 60 k + 1)) 64 k ((up M 60 k (M 60 k + 1)) 64 k + 1)) := by
  refine ⟨⟨h.1.1.frame (fun c a b => by rw [up_ne (by omega), up_ne (by omega)]) (by rw [up_ne (by omega), up_ne (by omega)]), ?_⟩, h.2.1.frame rfl rfl (fun c a b => by rw [up_ne (by omega), up_ne (by omega)]) rfl, h.2.2.1.frame (fun c a b => by rw [up_ne (by omega), up_ne (by omega)]) rfl rfl rfl, fun j j1 j2 => ?_, h.2.2.2.2.1.frame rfl rfl rfl rfl, h.2.2.2.2.2⟩
  · exact h.1.2
  · rw [up_ne (show 60 ≠ 64 by omega), up_eq, up_eq, up_ne (show 64 ≠ 60 by omega)]
    have h1 := h.2.2.2.1 j j1 j2
    have h2 := h.2.2.2.1 k hk.1 hk.2
    by_cases e : j = k
    · subst e
      simp [upd, h1]
    · simp [upd, e, h1]
theorem up_rd {M : xM} {k j a b : Nat} {v : Int32} : up M k j v a b = if a = k ∧ b = j then v else M a b := by
  by_cases ha : a = k
  · subst ha
    rw [up_eq]
    simp [upd]
  · rw [up_ne ha, if_neg (fun q => ha q.1)]
theorem nI_inj {a b : Nat} (ha : a < 2 ^ 31) (hb : b < 2 ^ 31) (h : nI a = nI b) : a = b := (nI_eq ha hb).mp h
/-- the house and the row change, not their texts; nothing else -/
theorem Rel.now {M M' : xM} (h : Rel M) (hf : ∀ c, c ≠ 62 → ¬ (1 ≤ c ∧ c ≤ 13) → M' c = M c) (hr : ∀ j, 156 ≤ j → M' 62 j = M 62 j) (h1 : hsA M' 1 62) (h2 : hsB M' 1 62) (h3 : hsC M' 1 62) (h4 : hsD M' 1 62) (h5 : hsE M' 1 62) (P H : Nat) (r1 : rwA (M' 62) P H) (r2 : rwB (M' 62)) (r3 : rwC (M' 62)) (r4 : rwD (M' 62) P H) (r5 : rwE (M' 62) H) : Rel M' := by
  have t1 := h.1.1.2.2.2.2.2
  obtain ⟨P0, H0, g1, g2, g3, g4, g5, t2⟩ := h.1.2
  exact ⟨⟨⟨h1, h2, h3, h4, h5, t1.frame (fun c a b => hf c (by omega) (by omega)) hr⟩, P, H, r1, r2, r3, r4, r5, t2.frame hr⟩, h.2.1.frame (by rw [hf 0 (by omega) (by omega)]) (by rw [hf 61 (by omega) (by omega)]) (fun c a b => hf c (by omega) (by omega)) (hf 63 (by omega) (by omega)), h.2.2.1.frame (fun c a b => hf c (by omega) (by omega)) (hf 65 (by omega) (by omega)) (hf 66 (by omega) (by omega)) (hf 67 (by omega) (by omega)), fun k a b => by rw [hf 60 (by omega) (by omega), hf 64 (by omega) (by omega)]; exact h.2.2.2.1 k a b, h.2.2.2.2.1.frame (by rw [hf 49 (by omega) (by omega)]) (by rw [hf 61 (by omega) (by omega)]) (hf 50 (by omega) (by omega)) (hf 75 (by omega) (by omega)), by rw [hf 61 (by omega) (by omega)]; exact h.2.2.2.2.2⟩
theorem rel_H {M : xM} (h : Rel M) : ∃ H : Nat, H ≤ 6 ∧ M 62 7 = nI H ∧ M 1 7 = nI H := by
  obtain ⟨P, H, h1, h2⟩ := h.1.2
  exact ⟨H, h1.2.2.2, h1.2.2.1, h.1.1.1.2.1.trans h1.2.2.1⟩
theorem rel_P {M : xM} (h : Rel M) : ∃ P : Nat, P ≤ 8 ∧ M 62 6 = nI P ∧ M 1 6 = nI P := by
  obtain ⟨P, H, h1, h2⟩ := h.1.2
  exact ⟨P, h1.2.1, h1.1, h.1.1.1.1.trans h1.1⟩
/-- all that Rel says of the present house, laid open -/
theorem rel_all {M : xM} (h : Rel M) : ∃ P H : Nat, P ≤ 8 ∧ H ≤ 6 ∧ M 62 6 = nI P ∧ M 62 7 = nI H ∧ M 1 6 = nI P ∧ M 1 7 = nI H ∧ (M 1 8 = M 62 8 ∧ M 1 9 = M 62 9 ∧ M 1 10 = M 62 4 ∧ M 1 11 = M 62 0 ∧ M 1 12 = M 62 1 ∧ M 1 13 = M 62 2 ∧ M 1 14 = M 62 3 ∧ M 1 15 = M 62 5) ∧ (∀ p j, p < 8 → j < 7 → M (1 + 2 + p) j = M 62 (10 + 7 * p + j)) ∧ (∀ i, i < 6 → M (1 + 10) i = M 62 (66 + i)) ∧ (∀ i, i < 60 → M (1 + 11) i = M 62 (72 + i)) ∧ (∀ i, i < 24 → M (1 + 12) i = M 62 (132 + i)) ∧
    (iN (M 62 8) 60 ∧ iN (M 62 9) 24 ∧ iN (M 62 0) 40 ∧ iN (M 62 1) 23 ∧ iN (M 62 2) 1 ∧ iN (M 62 3) 9999 ∧ iN (M 62 4) 99999) ∧
    (∀ p, p < 8 → iN (M 62 (10 + 7 * p + 0)) 6 ∧ iN (M 62 (10 + 7 * p + 1)) 9 ∧ iN (M 62 (10 + 7 * p + 2)) 3 ∧ iN (M 62 (10 + 7 * p + 3)) 9 ∧ iN (M 62 (10 + 7 * p + 4)) 9 ∧ iN (M 62 (10 + 7 * p + 5)) 5 ∧ iN (M 62 (10 + 7 * p + 6)) 99) ∧
    (∀ p, p < P → ∃ he, he < H ∧ M 62 (10 + 7 * p + 5) = nI he) ∧ (∀ i, i < 6 → iN (M 62 (66 + i)) 99999 ∧ (H ≤ i → M 62 (66 + i) = 0)) := by
  obtain ⟨a, b1, b2, b3, b4, b5⟩ := h.1.1
  obtain ⟨P, H, c1, c2, c3, c4, c5, c6⟩ := h.1.2
  exact ⟨P, H, c1.2.1, c1.2.2.2, c1.1, c1.2.2.1, a.1.trans c1.1, a.2.1.trans c1.2.2.1, a.2.2, b1, b2, b3, b4, c2, c3, c4, c5⟩
