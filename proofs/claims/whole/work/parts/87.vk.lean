/-! OPERATION text: both sides -/
theorem OpOK.ofT {ro : xRO} {yx ym : MD} {Lx Lm : xL} {M : xM} {T T1 : Nat} {A : Int32 → xM → Prop} (hx : Rn ro (0 + 90) yx 0 Lx [] (mk M T) (fun r h => ∃ p : Int32 × xM, A p.1 p.2 ∧ r = some (.int p.1) ∧ h = mk p.2 T1)) (hm : ∀ v M1, A v M1 → Rn ro (0 + 90) ym 0 Lm [] (mk M1 T1) (fun r h => ∃ M2, Rel M2 ∧ r = some (.int v) ∧ h = mk M2 T1)) : OpOK ro yx ym Lx Lm M T := by
  obtain ⟨n, pcr, v, h1, e, ⟨w, M1⟩, pA, pr, ph⟩ := hx
  obtain ⟨n', pcr', v', h1', e', M2, q1, q2, q3⟩ := hm w M1 pA
  exact ⟨w, M1, T1, M2, T1, Rn_deep ⟨n, pcr, v, h1, e, pr, ph⟩, Rn_deep ⟨n', pcr', v', h1', e', q2, q3⟩, q1⟩
set_option maxHeartbeats 4000000 in
theorem tp_rel0 {M : xM} (h : Rel M) : Rel (up (up M 1 8 0) 62 8 0) := by
  obtain ⟨P, H, h8, h6, pm, hm, px, hx, a, b1, b2, b3, b4, c2, c3, c4, c5⟩ := rel_all h
  have z8 : iN 0 60 := ⟨0, by omega, rfl⟩
  refine h.now ?_ ?_ ?_ ?_ ?_ ?_ ?_ P H ?_ ?_ ?_ ?_ ?_
  · intro c x y; simp only [up_ne x, up_ne (show c ≠ 1 from fun q => y (by omega)), up_ne (show c ≠ 11 from fun q => y (by omega)), up_ne (show c ≠ 12 from fun q => y (by omega)), up_ne (show c ≠ 13 from fun q => y (by omega))]
  · intro j hj; simp only [up_rd]; grind
  · unfold hsA; simp only [up_rd]; grind
  · intro p j hp hj; have := b1 p j hp hj; simp only [up_rd]; grind
  · intro i hi; have := b2 i hi; have := c5 i hi; simp only [up_rd]; grind
  · intro i hi; have := b3 i hi; simp only [up_rd]; grind
  · intro i hi; have := b4 i hi; simp only [up_rd]; grind
  · unfold rwA; simp only [up_rd]; grind
  · unfold rwB; simp only [up_rd]; grind
  · intro p hp; have := c3 p hp; simp only [up_rd]; grind
  · intro p hp; obtain ⟨he, e1, e2⟩ := c4 p (by omega); exact ⟨he, by omega, by simp only [up_rd]; grind⟩
  · intro i hi; have := c5 i hi; have : iN 0 99999 := ⟨0, by omega, rfl⟩; simp only [up_rd]; grind
theorem tp_rel {M M4 : xM} (h : Rel M) (e0 : ∀ c, c ≠ 1 → c ≠ 62 → ¬ (14 ≤ c ∧ c ≤ 19) → ¬ (45 ≤ c ∧ c ≤ 47) → c ≠ 61 → c ≠ 68 → c ≠ 69 → M4 c = M c) (e1 : ∀ j, M4 1 j = if j = 8 then 0 else M 1 j) (e62 : ∀ j, j < 156 → M4 62 j = if j = 8 then 0 else M 62 j) (e61 : ∀ j, j < 12 ∨ 16 < j → M4 61 j = M 61 j) (ht : hsT M4 1 62) (hr : rwT (M4 62)) : Rel M4 := by
  have hA := tp_rel0 h
  have f1 : M4 1 = up (up M 1 8 0) 62 8 0 1 := by
    funext j
    rw [e1, up_ne (by omega), up_rd]
    by_cases q : j = 8
    · rw [if_pos q, if_pos ⟨rfl, q⟩]
    · rw [if_neg q, if_neg (fun z => q z.2)]
  have hI : Rel (fun c => if c = 62 ∨ (14 ≤ c ∧ c ≤ 19) then (up (up M 1 8 0) 62 8 0) c else M4 c) := by
    refine hA.irr (fun c a1 a2 a3 a4 a5 => ?_) ?_ ?_ ?_
    · by_cases q : c = 62 ∨ (14 ≤ c ∧ c ≤ 19)
      · exact if_pos q
      · show (if c = 62 ∨ (14 ≤ c ∧ c ≤ 19) then _ else M4 c) = _
        rw [if_neg q]
        by_cases q1 : c = 1
        · rw [q1]
          exact f1
        · rw [up_ne (by omega), up_ne q1]
          exact e0 c q1 (by omega) (by omega) (by omega) a4 (by omega) (by omega)
    · show M4 61 2 = M 61 2
      exact e61 2 (by omega)
    · show M4 61 7 = 0
      rw [e61 7 (by omega)]
      exact h.2.2.2.2.2
    · show M4 61 22 = M 61 22
      exact e61 22 (by omega)
  refine hI.txt (fun c a1 a2 => ?_) (fun j hj => ?_) ht hr
  · show _ = (if c = 62 ∨ (14 ≤ c ∧ c ≤ 19) then _ else M4 c)
    rw [if_neg (by omega)]
  · show _ = up (up M 1 8 0) 62 8 0 62 j
    rw [e62 j hj, up_rd, up_ne (by omega)]
    by_cases q : j = 8
    · rw [if_pos q, if_pos ⟨rfl, q⟩]
    · rw [if_neg q, if_neg (fun z => q z.2)]
theorem tp_flt {M Mc Mm : xM} {L p : Nat} (h : Rel M) (hx : tpF M p Mc) (hm : tpN L (up Mc 1 8 0) p Mm) : Rel (up Mm 62 8 0) := by
  obtain ⟨-, -, hx⟩ := hx
  obtain ⟨-, -, -, -, m1, m2⟩ := hm
  have g : ∀ c, c ≠ 62 → c ≠ 1 → ¬ (45 ≤ c ∧ c ≤ 47) → c ≠ 61 → c ≠ 68 → c ≠ 69 → up Mm 62 8 0 c = M c := fun c a1 a2 a3 a4 a5 a6 => by
    rw [up_ne a1, m1 c a4 a5 a6, up_ne a2, hx c (by omega) (by omega) (by omega)]
  have g62 : ∀ j, up Mm 62 8 0 62 j = if j = 8 then 0 else M 62 j := fun j => by
    rw [up_rd, m1 62 (by omega) (by omega) (by omega), up_ne (by omega), hx 62 (by omega) (by omega) (by omega)]
    by_cases q : j = 8
    · rw [if_pos q, if_pos ⟨rfl, q⟩]
    · rw [if_neg q, if_neg (fun z => q z.2)]
  have g62' : ∀ j, 156 ≤ j → up Mm 62 8 0 62 j = M 62 j := fun j hj => by rw [g62, if_neg (by omega)]
  obtain ⟨P9, H9, -, -, -, -, -, t2⟩ := h.1.2
  refine tp_rel h (fun c a1 a2 a3 a4 a5 a6 a7 => g c a2 a1 a4 a5 a6 a7) (fun j => ?_) (fun j hj => g62 j) (fun j hj => ?_) (h.1.1.2.2.2.2.2.frame (fun c a b => g c (by omega) (by omega) (by omega) (by omega) (by omega) (by omega)) g62') (t2.frame g62')
  · rw [up_ne (by omega), m1 1 (by omega) (by omega) (by omega), up_rd, hx 1 (by omega) (by omega) (by omega)]
    by_cases q : j = 8
    · rw [if_pos q, if_pos ⟨rfl, q⟩]
    · rw [if_neg q, if_neg (fun z => q z.2)]
  · rw [up_ne (by omega), m2 j hj, up_ne (by omega), hx 61 (by omega) (by omega) (by omega)]
set_option maxHeartbeats 4000000 in
theorem tp_good_0 {M Mc Mm : xM} {f : Nat → Int32} {L : Nat} {s : tpS} (h : Rel M) (h60 : L ≤ 60) (ho : tpO L 1 s) (hx : tpX f L 0 M s Mc) (hm : tpM f L 0 (cpF (cpyA (up Mc 1 8 0) 47 15 60) 14 46 2) 0 s Mm) : Rel (tpC (up (up (up Mm 61 15 0) 62 8 0) 62 156 (nI s.2.1)) 157 217 s.2.1) := by
  have hk1 := ho.1
  have hk2 := ho.2.1
  obtain ⟨-, -, m3, -, -, m1, m2⟩ := hm
  have x9 := hx.2.2.2.2
  have x2 : (cpF (cpyA (up Mc 1 8 0) 47 15 60) 14 46 2) 14 2 = Mc 46 2 := by
    rw [cpF_rd, if_pos ⟨rfl, rfl⟩, cpyA_rd, if_neg (by omega), up_ne (by omega)]
  have x3 : ∀ i, i < 60 → (cpF (cpyA (up Mc 1 8 0) 47 15 60) 14 46 2) 15 i = Mc 47 i := fun i hi => by
    rw [cpF_rd, if_neg (by omega), cpyA_rd, if_pos ⟨rfl, hi⟩, up_ne (by omega)]
  have xo : ∀ c, c ≠ 14 → c ≠ 15 → (cpF (cpyA (up Mc 1 8 0) 47 15 60) 14 46 2) c = up Mc 1 8 0 c := fun c q1 q2 => by
    funext j
    rw [cpF_rd, if_neg (fun z => q1 z.1), cpyA_rd, if_neg (fun z => q2 z.1)]
  have mm : ∀ c, c ≠ 62 → c ≠ 61 → (tpC (up (up (up Mm 61 15 0) 62 8 0) 62 156 (nI s.2.1)) 157 217 s.2.1) c = Mm c := fun c q1 q2 => by
    rw [tpC_ne q1, up_ne q1, up_ne q1, up_ne q2]
  have m : ∀ c, c ≠ 62 → c ≠ 61 → (h8 : c ≠ 68 := by omega) → (h9 : c ≠ 69 := by omega) → (tpC (up (up (up Mm 61 15 0) 62 8 0) 62 156 (nI s.2.1)) 157 217 s.2.1) c = (cpF (cpyA (up Mc 1 8 0) 47 15 60) 14 46 2) c := fun c q1 q2 h8 h9 => by
    rw [mm c q1 q2, m1 c q2 h8 h9]
  have o : ∀ c, c ≠ 62 → c ≠ 61 → ¬ (14 ≤ c ∧ c ≤ 15) → ¬ (45 ≤ c ∧ c ≤ 47) → c ≠ 1 → (h8 : c ≠ 68 := by omega) → (h9 : c ≠ 69 := by omega) → (tpC (up (up (up Mm 61 15 0) 62 8 0) 62 156 (nI s.2.1)) 157 217 s.2.1) c = M c := fun c q1 q2 q3 q4 q5 h8 h9 => by
    rw [m c q1 q2, xo c (by omega) (by omega), up_ne q5, x9 c (by omega) (by omega) (by omega)]
  have e62 : Mm 62 = M 62 := by
    rw [m1 62 (by omega) (by omega) (by omega), xo 62 (by omega) (by omega), up_ne (by omega), x9 62 (by omega) (by omega) (by omega)]
  have g : ∀ j, (tpC (up (up (up Mm 61 15 0) 62 8 0) 62 156 (nI s.2.1)) 157 217 s.2.1) 62 j = if 157 ≤ j ∧ j < 157 + s.2.1 then Mm 68 (j - 157) else if 217 ≤ j ∧ j < 217 + s.2.1 then Mm 69 (j - 217) else if j = 156 then nI s.2.1 else if j = 8 then 0 else M 62 j := fun j => by
    rw [tpC_rd rfl s.2.1 (by omega), up_ne (show 68 ≠ 62 by omega), up_ne (show 68 ≠ 62 by omega), up_ne (show 68 ≠ 61 by omega), up_ne (show 69 ≠ 62 by omega), up_ne (show 69 ≠ 62 by omega), up_ne (show 69 ≠ 61 by omega), up_rd, up_rd, up_ne (show 62 ≠ 61 by omega), e62]
    simp only [true_and]
  have g2 : ∀ j, ¬ (156 ≤ j ∧ j < 277) → (h8 : j ≠ 8 := by omega) → (tpC (up (up (up Mm 61 15 0) 62 8 0) 62 156 (nI s.2.1)) 157 217 s.2.1) 62 j = M 62 j := fun j hj h8 => by
    rw [g, if_neg (by omega), if_neg (by omega), if_neg (by omega), if_neg h8]
  have T1 := h.1.1.2.2.2.2.2
  obtain ⟨P9, H9, -, -, -, -, -, T2⟩ := h.1.2
  refine tp_rel h (fun c a1 a2 a3 a4 a5 a6 a7 => o c a2 a5 (by omega) a4 a1 a6 a7) (fun j => ?_) (fun j hj => ?_) (fun j hj => ?_) ⟨⟨?_, fun i hi => ?_⟩, ?_, fun i hi => ?_⟩ ⟨?_, ?_⟩
  · rw [m 1 (by omega) (by omega), xo 1 (by omega) (by omega), up_rd, x9 1 (by omega) (by omega) (by omega)]
    simp only [true_and]
  · rw [g, if_neg (by omega), if_neg (by omega), if_neg (by omega)]
  · rw [tpC_ne (by omega), up_ne (by omega), up_ne (by omega), up_nj (by omega), m2 j hj, xo 61 (by omega) (by omega), up_ne (by omega), x9 61 (by omega) (by omega) (by omega)]
  · rw [m 14 (by omega) (by omega), x2, g 156, if_neg (by omega), if_neg (by omega), if_pos rfl]
    exact hx.2.1
  · rw [g 156, if_neg (by omega), if_neg (by omega), if_pos rfl, nI_clamp (by omega)] at hi
    rw [m 15 (by omega) (by omega), x3 i (by omega), hx.2.2.1 i hi, g, if_pos (by omega), g, if_neg (by omega), if_pos (by omega), show 157 + i - 157 = i by omega, show 217 + i - 217 = i by omega, (m3 i hi).1, (m3 i hi).2]
  · rw [o 17 (by omega) (by omega) (by omega) (by omega) (by omega), g2 277 (by omega)]
    exact T1.2.1
  · rw [g2 277 (by omega)] at hi
    have i60 : i < 60 := by
      obtain ⟨k, k1, k2, -⟩ := T2.2
      rw [k2, nI_clamp (by omega)] at hi
      omega
    rw [o 18 (by omega) (by omega) (by omega) (by omega) (by omega), g2 _ (by omega), g2 _ (by omega)]
    exact T1.2.2 i hi
  · refine ⟨s.2.1, by omega, ?_, Or.inr ?_, fun i hi => ?_⟩
    · rw [g 156, if_neg (by omega), if_neg (by omega), if_pos rfl]
    · rw [stkT_congr s.2.1 (a := s.2.2.1) (fun i hi => ?_)]
      · exact ho.2.2.1
      · rw [g, if_pos (by omega), show 157 + i - 157 = i by omega]
        exact (m3 i hi).1
    · dsimp only
      rw [g, if_pos (by omega), g, if_neg (by omega), if_pos (by omega), show 157 + i - 157 = i by omega, show 217 + i - 217 = i by omega, (m3 i hi).1, (m3 i hi).2]
      exact ho.2.2.2 i hi
  · rw [g2 277 (by omega)]
    exact T2.2.congr (fun i hi => g2 _ (by omega)) (fun i hi => g2 _ (by omega))
set_option maxHeartbeats 4000000 in
theorem tp_good_1 {M Mc Mm : xM} {f : Nat → Int32} {L : Nat} {s : tpS} (h : Rel M) (h60 : L ≤ 60) (ho : tpO L 1 s) (hx : tpX f L 1 M s Mc) (hm : tpM f L 1 (cpF (cpyA (up Mc 1 8 0) 47 18 60) 17 46 2) 0 s Mm) : Rel (tpC (up (up (up Mm 61 15 0) 62 8 0) 62 277 (nI s.2.1)) 278 338 s.2.1) := by
  have hk1 := ho.1
  have hk2 := ho.2.1
  obtain ⟨-, -, m3, -, -, m1, m2⟩ := hm
  have x9 := hx.2.2.2.2
  have x2 : (cpF (cpyA (up Mc 1 8 0) 47 18 60) 17 46 2) 17 2 = Mc 46 2 := by
    rw [cpF_rd, if_pos ⟨rfl, rfl⟩, cpyA_rd, if_neg (by omega), up_ne (by omega)]
  have x3 : ∀ i, i < 60 → (cpF (cpyA (up Mc 1 8 0) 47 18 60) 17 46 2) 18 i = Mc 47 i := fun i hi => by
    rw [cpF_rd, if_neg (by omega), cpyA_rd, if_pos ⟨rfl, hi⟩, up_ne (by omega)]
  have xo : ∀ c, c ≠ 17 → c ≠ 18 → (cpF (cpyA (up Mc 1 8 0) 47 18 60) 17 46 2) c = up Mc 1 8 0 c := fun c q1 q2 => by
    funext j
    rw [cpF_rd, if_neg (fun z => q1 z.1), cpyA_rd, if_neg (fun z => q2 z.1)]
  have mm : ∀ c, c ≠ 62 → c ≠ 61 → (tpC (up (up (up Mm 61 15 0) 62 8 0) 62 277 (nI s.2.1)) 278 338 s.2.1) c = Mm c := fun c q1 q2 => by
    rw [tpC_ne q1, up_ne q1, up_ne q1, up_ne q2]
  have m : ∀ c, c ≠ 62 → c ≠ 61 → (h8 : c ≠ 68 := by omega) → (h9 : c ≠ 69 := by omega) → (tpC (up (up (up Mm 61 15 0) 62 8 0) 62 277 (nI s.2.1)) 278 338 s.2.1) c = (cpF (cpyA (up Mc 1 8 0) 47 18 60) 17 46 2) c := fun c q1 q2 h8 h9 => by
    rw [mm c q1 q2, m1 c q2 h8 h9]
  have o : ∀ c, c ≠ 62 → c ≠ 61 → ¬ (17 ≤ c ∧ c ≤ 18) → ¬ (45 ≤ c ∧ c ≤ 47) → c ≠ 1 → (h8 : c ≠ 68 := by omega) → (h9 : c ≠ 69 := by omega) → (tpC (up (up (up Mm 61 15 0) 62 8 0) 62 277 (nI s.2.1)) 278 338 s.2.1) c = M c := fun c q1 q2 q3 q4 q5 h8 h9 => by
    rw [m c q1 q2, xo c (by omega) (by omega), up_ne q5, x9 c (by omega) (by omega) (by omega)]
  have e62 : Mm 62 = M 62 := by
    rw [m1 62 (by omega) (by omega) (by omega), xo 62 (by omega) (by omega), up_ne (by omega), x9 62 (by omega) (by omega) (by omega)]
  have g : ∀ j, (tpC (up (up (up Mm 61 15 0) 62 8 0) 62 277 (nI s.2.1)) 278 338 s.2.1) 62 j = if 278 ≤ j ∧ j < 278 + s.2.1 then Mm 68 (j - 278) else if 338 ≤ j ∧ j < 338 + s.2.1 then Mm 69 (j - 338) else if j = 277 then nI s.2.1 else if j = 8 then 0 else M 62 j := fun j => by
    rw [tpC_rd rfl s.2.1 (by omega), up_ne (show 68 ≠ 62 by omega), up_ne (show 68 ≠ 62 by omega), up_ne (show 68 ≠ 61 by omega), up_ne (show 69 ≠ 62 by omega), up_ne (show 69 ≠ 62 by omega), up_ne (show 69 ≠ 61 by omega), up_rd, up_rd, up_ne (show 62 ≠ 61 by omega), e62]
    simp only [true_and]
  have g2 : ∀ j, ¬ (277 ≤ j ∧ j < 398) → (h8 : j ≠ 8 := by omega) → (tpC (up (up (up Mm 61 15 0) 62 8 0) 62 277 (nI s.2.1)) 278 338 s.2.1) 62 j = M 62 j := fun j hj h8 => by
    rw [g, if_neg (by omega), if_neg (by omega), if_neg (by omega), if_neg h8]
  have T1 := h.1.1.2.2.2.2.2
  obtain ⟨P9, H9, -, -, -, -, -, T2⟩ := h.1.2
  refine tp_rel h (fun c a1 a2 a3 a4 a5 a6 a7 => o c a2 a5 (by omega) a4 a1 a6 a7) (fun j => ?_) (fun j hj => ?_) (fun j hj => ?_) ⟨⟨?_, fun i hi => ?_⟩, ?_, fun i hi => ?_⟩ ⟨?_, ?_⟩
  · rw [m 1 (by omega) (by omega), xo 1 (by omega) (by omega), up_rd, x9 1 (by omega) (by omega) (by omega)]
    simp only [true_and]
  · rw [g, if_neg (by omega), if_neg (by omega), if_neg (by omega)]
  · rw [tpC_ne (by omega), up_ne (by omega), up_ne (by omega), up_nj (by omega), m2 j hj, xo 61 (by omega) (by omega), up_ne (by omega), x9 61 (by omega) (by omega) (by omega)]
  · rw [o 14 (by omega) (by omega) (by omega) (by omega) (by omega), g2 156 (by omega)]
    exact T1.1.1
  · rw [g2 156 (by omega)] at hi
    have i60 : i < 60 := by
      obtain ⟨k, k1, k2, -⟩ := T2.1
      rw [k2, nI_clamp (by omega)] at hi
      omega
    rw [o 15 (by omega) (by omega) (by omega) (by omega) (by omega), g2 _ (by omega), g2 _ (by omega)]
    exact T1.1.2 i hi
  · rw [m 17 (by omega) (by omega), x2, g 277, if_neg (by omega), if_neg (by omega), if_pos rfl]
    exact hx.2.1
  · rw [g 277, if_neg (by omega), if_neg (by omega), if_pos rfl, nI_clamp (by omega)] at hi
    rw [m 18 (by omega) (by omega), x3 i (by omega), hx.2.2.1 i hi, g, if_pos (by omega), g, if_neg (by omega), if_pos (by omega), show 278 + i - 278 = i by omega, show 338 + i - 338 = i by omega, (m3 i hi).1, (m3 i hi).2]
  · rw [g2 156 (by omega)]
    exact T2.1.congr (fun i hi => g2 _ (by omega)) (fun i hi => g2 _ (by omega))
  · refine ⟨s.2.1, by omega, ?_, Or.inr ?_, fun i hi => ?_⟩
    · rw [g 277, if_neg (by omega), if_neg (by omega), if_pos rfl]
    · rw [stkT_congr s.2.1 (a := s.2.2.1) (fun i hi => ?_)]
      · exact ho.2.2.1
      · rw [g, if_pos (by omega), show 278 + i - 278 = i by omega]
        exact (m3 i hi).1
    · dsimp only
      rw [g, if_pos (by omega), g, if_neg (by omega), if_pos (by omega), show 278 + i - 278 = i by omega, show 338 + i - 338 = i by omega, (m3 i hi).1, (m3 i hi).2]
      exact ho.2.2.2 i hi
set_option maxHeartbeats 4000000 in
theorem op_text {ro : xRO} {M : xM} {T : Nat} (h : Rel M) {i : Int32} : OpOK ro M_X7_text M_X8_text [some (.ref 3), some (.int i), none, none] [some (.ref 64), some (.int i), none, none] M T := by
  obtain ⟨P, H, h8, h6, pm, hm, px, hx, a, b1, b2, b3, b4, c2, c3, c4, c5⟩ := rel_all h
  have hL := c2.1
  obtain ⟨L, h60, hL⟩ := hL
  have hL1 : M 1 8 = nI L := a.1.trans hL
  by_cases u0 : i = 0
  · subst u0
    cases e : tpZ (M 12) L 0 with
    | inl p =>
      have k := tpZ_ok (f := M 12) (L := L) (u := 0)
      rw [e] at k
      have k1 : p ≤ L := k
      refine OpOK.ofT (T1 := 15) (A := fun v M1 => v = -10 - nI p ∧ ∃ Mc, tpF M p Mc ∧ M1 = up Mc 1 8 0) ?_ ?_
      · exact x_text_f_0 hL1 (by omega) (tx_fault_l (u := 0) h60 (by omega) (fun _ _ => rfl) e) (fun Mc hc => ⟨(_, _), ⟨rfl, Mc, hc, rfl⟩, rfl, rfl⟩)
      · intro v M1 hA
        obtain ⟨rfl, Mc, hc, rfl⟩ := hA
        have e62 : up Mc 1 8 0 62 = M 62 := by rw [up_ne (by omega), hc.2.2 62 (by omega) (by omega) (by omega)]
        refine (mx_text_l_0 (f := M 12) h60 (by rw [e62]; exact hL) (fun i hi => by rw [e62]; exact (b3 i hi).symm) e).imp (fun _ _ q => ?_)
        obtain ⟨Mm, q1, q2, q3⟩ := q
        exact ⟨_, tp_flt h hc q1, q2, q3⟩
    | inr s =>
      have k := tpZ_ok (f := M 12) (L := L) (u := 0)
      rw [e] at k
      refine OpOK.ofT (T1 := 15) (A := fun v M1 => v = 1 ∧ ∃ Mc, tpX (M 12) L 0 M s Mc ∧ M1 = cpF (cpyA (up Mc 1 8 0) 47 15 60) 14 46 2) ?_ ?_
      · exact x_text_g_0 hL1 (tx_fault_r (u := 0) h60 (by omega) (fun _ _ => rfl) e) (fun Mc hc => ⟨(_, _), ⟨rfl, Mc, hc, rfl⟩, rfl, rfl⟩)
      · intro v M1 hA
        obtain ⟨rfl, Mc, hc, e1⟩ := hA
        have e62 : M1 62 = M 62 := by
          rw [e1]
          funext j
          rw [cpF_rd, if_neg (by omega), cpyA_rd, if_neg (by omega), up_ne (by omega), hc.2.2.2.2 62 (by omega) (by omega) (by omega)]
        refine (mx_text_r_0 (f := M 12) h60 (by rw [e62]; exact hL) (fun i hi => by rw [e62]; exact (b3 i hi).symm) e).imp (fun _ _ q => ?_)
        obtain ⟨Mm, q1, q2, q3⟩ := q
        rw [e1] at q1
        exact ⟨_, tp_good_0 h h60 k.1 hc q1, q2, q3⟩
  by_cases u1 : i = 1
  · subst u1
    cases e : tpZ (M 12) L 1 with
    | inl p =>
      have k := tpZ_ok (f := M 12) (L := L) (u := 1)
      rw [e] at k
      have k1 : p ≤ L := k
      refine OpOK.ofT (T1 := 15) (A := fun v M1 => v = -10 - nI p ∧ ∃ Mc, tpF M p Mc ∧ M1 = up Mc 1 8 0) ?_ ?_
      · exact x_text_f_1 hL1 (by omega) (tx_fault_l (u := 1) h60 (by omega) (fun _ _ => rfl) e) (fun Mc hc => ⟨(_, _), ⟨rfl, Mc, hc, rfl⟩, rfl, rfl⟩)
      · intro v M1 hA
        obtain ⟨rfl, Mc, hc, rfl⟩ := hA
        have e62 : up Mc 1 8 0 62 = M 62 := by rw [up_ne (by omega), hc.2.2 62 (by omega) (by omega) (by omega)]
        refine (mx_text_l_1 (f := M 12) h60 (by rw [e62]; exact hL) (fun i hi => by rw [e62]; exact (b3 i hi).symm) e).imp (fun _ _ q => ?_)
        obtain ⟨Mm, q1, q2, q3⟩ := q
        exact ⟨_, tp_flt h hc q1, q2, q3⟩
    | inr s =>
      have k := tpZ_ok (f := M 12) (L := L) (u := 1)
      rw [e] at k
      refine OpOK.ofT (T1 := 15) (A := fun v M1 => v = 1 ∧ ∃ Mc, tpX (M 12) L 1 M s Mc ∧ M1 = cpF (cpyA (up Mc 1 8 0) 47 18 60) 17 46 2) ?_ ?_
      · exact x_text_g_1 hL1 (tx_fault_r (u := 1) h60 (by omega) (fun _ _ => rfl) e) (fun Mc hc => ⟨(_, _), ⟨rfl, Mc, hc, rfl⟩, rfl, rfl⟩)
      · intro v M1 hA
        obtain ⟨rfl, Mc, hc, e1⟩ := hA
        have e62 : M1 62 = M 62 := by
          rw [e1]
          funext j
          rw [cpF_rd, if_neg (by omega), cpyA_rd, if_neg (by omega), up_ne (by omega), hc.2.2.2.2 62 (by omega) (by omega) (by omega)]
        refine (mx_text_r_1 (f := M 12) h60 (by rw [e62]; exact hL) (fun i hi => by rw [e62]; exact (b3 i hi).symm) e).imp (fun _ _ q => ?_)
        obtain ⟨Mm, q1, q2, q3⟩ := q
        rw [e1] at q1
        exact ⟨_, tp_good_1 h h60 k.1 hc q1, q2, q3⟩
  exact OpOK.of (fun d => x_text_n u0 u1) (fun d => m_text_o (M := up M 60 1 (M 60 1 + 1)) u0 u1) rfl (h.err 1 (by omega))
