/-! OPERATIONS: untell, body -/
theorem Rel.txt {M M' : xM} (h : Rel M) (hf : ∀ c, c ≠ 62 → ¬ (14 ≤ c ∧ c ≤ 19) → M' c = M c) (hr : ∀ j, j < 156 → M' 62 j = M 62 j) (h1 : hsT M' 1 62) (h2 : rwT (M' 62)) : Rel M' := by
  obtain ⟨⟨⟨q1, q2, q3, q4, q5, q6⟩, P, H, r1, r2, r3, r4, r5, r6⟩, s2, s3, s4, s5, s6⟩ := h
  refine ⟨⟨⟨?_, fun p j hp hj => ?_, fun i hi => ?_, fun i hi => ?_, fun i hi => ?_, h1⟩, P, H, ?_, ?_, fun p hp => ?_, fun p hp => ?_, fun i hi => ?_, h2⟩, s2.frame (by rw [hf 0 (by omega) (by omega)]) (by rw [hf 61 (by omega) (by omega)]) (fun c a b => hf c (by omega) (by omega)) (hf 63 (by omega) (by omega)), s3.frame (fun c a b => hf c (by omega) (by omega)) (hf 65 (by omega) (by omega)) (hf 66 (by omega) (by omega)) (hf 67 (by omega) (by omega)), fun k a b => by rw [hf 60 (by omega) (by omega), hf 64 (by omega) (by omega)]; exact s4 k a b, s5.frame (by rw [hf 49 (by omega) (by omega)]) (by rw [hf 61 (by omega) (by omega)]) (hf 50 (by omega) (by omega)) (hf 75 (by omega) (by omega)), by rw [hf 61 (by omega) (by omega)]; exact s6⟩
  · unfold hsA
    rw [hf 1 (by omega) (by omega), hr 6 (by omega), hr 7 (by omega), hr 8 (by omega), hr 9 (by omega), hr 4 (by omega), hr 0 (by omega), hr 1 (by omega), hr 2 (by omega), hr 3 (by omega), hr 5 (by omega)]
    exact q1
  · rw [hf _ (by omega) (by omega), hr _ (by omega)]; exact q2 p j hp hj
  · rw [hf _ (by omega) (by omega), hr _ (by omega)]; exact q3 i hi
  · rw [hf _ (by omega) (by omega), hr _ (by omega)]; exact q4 i hi
  · rw [hf _ (by omega) (by omega), hr _ (by omega)]; exact q5 i hi
  · unfold rwA
    rw [hr 6 (by omega), hr 7 (by omega)]
    exact r1
  · unfold rwB
    rw [hr 8 (by omega), hr 9 (by omega), hr 4 (by omega), hr 0 (by omega), hr 1 (by omega), hr 2 (by omega), hr 3 (by omega)]
    exact r2
  · rw [hr _ (by omega), hr _ (by omega), hr _ (by omega), hr _ (by omega), hr _ (by omega), hr _ (by omega), hr _ (by omega)]
    exact r3 p hp
  · have hP := r1.2.1
    obtain ⟨he, e1, e2⟩ := r4 p hp
    exact ⟨he, e1, by rw [hr _ (by omega)]; exact e2⟩
  · rw [hr _ (by omega)]
    exact r5 i hi
theorem stkT_congr {a a' : Nat → Int32} : ∀ k, (∀ i, i < k → a' i = a i) → stkT a' k = stkT a k := by
  intro k
  induction k with
  | zero => intro _; rfl
  | succ k ih =>
    intro h
    unfold stkT
    rw [ih (fun i hi => h i (by omega)), h k (by omega)]
theorem wfT.congr {n : Int32} {a a' w w' : Nat → Int32} (h : wfT n a w) (ha : ∀ i, i < 60 → a' i = a i) (hw : ∀ i, i < 60 → w' i = w i) : wfT n a' w' := by
  obtain ⟨k, k60, hn, hs, hk⟩ := h
  refine ⟨k, k60, hn, ?_, fun i hi => ?_⟩
  · rw [stkT_congr k (fun i hi => ha i (by omega))]
    exact hs
  · rw [ha i (by omega), hw i (by omega)]
    exact hk i hi
theorem wfT_0 (a w : Nat → Int32) : wfT 0 a w := ⟨0, by omega, rfl, Or.inl rfl, fun i hi => absurd hi (by omega)⟩
