/-! TEXTS at work: the model, law -/
set_option maxRecDepth 100000 in
set_option maxHeartbeats 4000000 in
theorem v156_end {ro : xRO} {d : Nat} {M : xM} {T : Nat}  {g : Nat → Int32} {t k : Nat} {w : Option Value} (hk : M 62 156 = nI k) (k60 : k ≤ 60) : Rn ro (d + 2) M_X8_works 4 [some (.ref 64), some (.int 156), some (.int (nI t)), some (.int (nI k)), w] [] (mk (upA M 71 g) T) (fun r h => r = some (.int (g 0)) ∧ h = mk (upA M 71 g) T) := by
  refine R_go 5 (pc' := 11) (L' := [some (.ref 64), some (.int 156), some (.int (nI t)), some (.int (nI k)), w]) (st' := [.int ((upA M 71 g) 62 156), .int (nI k)]) (h' := mk (upA M 71 g) T) (fun _ => rfl) ?_
  refine R_top (y := nI k) (hk) ?_
  refine R_if 1 (c := (nI k) ≤ (nI k)) (t := 155) (f := 14) (L' := [some (.ref 64), some (.int 156), some (.int (nI t)), some (.int (nI k)), w]) (st' := []) (h' := mk (upA M 71 g) T) (fun _ => rfl) (fun g1 => ?_) (fun g1 => ?_)
  · replace g1 : k ≤ k := (nI_leI (a := k) (b := k) (by omega) (by omega)).mp g1
    refine R_go 4 (pc' := 161) (L' := [some (.ref 64), some (.int 156), some (.int (nI t)), some (.int (nI k)), w]) (st' := [.int ((upA M 71 g) 71 0)]) (h' := mk (upA M 71 g) T) (fun _ => rfl) ?_
    refine R_top (y := g 0) (congrFun upA_eq _) ?_
    refine R_ret 1 (pcr := 161) (v := some (.int (g 0))) (h' := mk (upA M 71 g) T) (fun _ => rfl) ?_
    exact ⟨rfl, rfl⟩
  · replace g1 : ¬ k ≤ k := fun q => g1 ((nI_leI (a := k) (b := k) (by omega) (by omega)).mpr q)
    omega
set_option maxRecDepth 100000 in
set_option maxHeartbeats 4000000 in
theorem lp_works156 {ro : xRO} {d : Nat} {M : xM} {T : Nat} {act wit : Nat → Int32} {k : Nat} (hk : M 62 156 = nI k) (k60 : k ≤ 60) (ha : ∀ i, i < k → M 62 (157 + i) = act i) (hw : ∀ i, i < k → M 62 (217 + i) = wit i) (hwf : wfS act wit k) (hs : stkT act k = some 1) : ∀ (r i : Nat) (w : Option Value), i + r = k → Rn ro (d + 2) M_X8_works 4 [some (.ref 64), some (.int 156), some (.int (nI ((evT (M 71) act wit (M 70) i).1))), some (.int (nI i)), w] [] (mk (upA M 71 (evT (M 71) act wit (M 70) i).2) T) (fun r h => r = some (.int (evR k act wit (M 70))) ∧ h = mk (upA M 71 (evT (M 71) act wit (M 70) k).2) T) := by
  intro r
  induction r with
  | zero =>
    intro i w hi
    obtain rfl : i = k := by omega
    refine (v156_end hk k60).imp (fun _ _ q => ⟨?_, q.2⟩)
    rw [q.1, ev_R hs]
  | succ r ih =>
    intro i w hi
    obtain ⟨ok, oi⟩ := stk_ok (s0 := M 71) (w := wit) (f := M 70) hs (show i < k by omega)
    rcases hwf i (by omega) with ⟨o1, v, v4, o2⟩ | ⟨o1, u, u2, o2⟩ | o3 | o3
    · have w := ih (i + 1) (some (.int 1)) (by omega)
      rw [ev_push o1] at w
      exact v156_push hk k60 (by omega) ((ha i (by omega)).trans o1) (hw i (by omega)) (by omega) w
    · have w := ih (i + 1) (some (.int 2)) (by omega)
      rw [ev_name o1, o2, nI_clamp (by omega)] at w
      exact v156_name hk k60 (by omega) ((ha i (by omega)).trans o1) u2 ((hw i (by omega)).trans o2) (by omega) w
    · have w := ih (i + 1) (some (.int 3)) (by omega)
      rw [ev_not o3] at w
      rcases ok with (q | q) | ⟨-, q⟩ | ⟨-, -, q, -⟩
      · rw [o3] at q; exact absurd q (by decide)
      · rw [o3] at q; exact absurd q (by decide)
      · exact v156_not hk k60 (by omega) ((ha i (by omega)).trans o3) q (by omega) w
      · exact absurd o3 q
    · rcases o3 with o3 | o3 | o3 | o3 | o3 | o3 | o3 | o3 | o3 | o3
      · have w := ih (i + 1) (some (.int 124)) (by omega)
        rw [ev_sig (s := 124) o3 (by omega) (by omega) (by omega) (by omega)] at w
        rcases ok with (q | q) | ⟨q, -⟩ | ⟨-, -, -, q⟩
        · rw [o3] at q; exact absurd q (by decide)
        · rw [o3] at q; exact absurd q (by decide)
        · rw [o3] at q; exact absurd q (by decide)
        · exact v156_sig_124 hk k60 (by omega) ((ha i (by omega)).trans o3) q (by omega) w
      · have w := ih (i + 1) (some (.int 38)) (by omega)
        rw [ev_sig (s := 38) o3 (by omega) (by omega) (by omega) (by omega)] at w
        rcases ok with (q | q) | ⟨q, -⟩ | ⟨-, -, -, q⟩
        · rw [o3] at q; exact absurd q (by decide)
        · rw [o3] at q; exact absurd q (by decide)
        · rw [o3] at q; exact absurd q (by decide)
        · exact v156_sig_38 hk k60 (by omega) ((ha i (by omega)).trans o3) q (by omega) w
      · have w := ih (i + 1) (some (.int 60)) (by omega)
        rw [ev_sig (s := 60) o3 (by omega) (by omega) (by omega) (by omega)] at w
        rcases ok with (q | q) | ⟨q, -⟩ | ⟨-, -, -, q⟩
        · rw [o3] at q; exact absurd q (by decide)
        · rw [o3] at q; exact absurd q (by decide)
        · rw [o3] at q; exact absurd q (by decide)
        · exact v156_sig_60 hk k60 (by omega) ((ha i (by omega)).trans o3) q (by omega) w
      · have w := ih (i + 1) (some (.int 61)) (by omega)
        rw [ev_sig (s := 61) o3 (by omega) (by omega) (by omega) (by omega)] at w
        rcases ok with (q | q) | ⟨q, -⟩ | ⟨-, -, -, q⟩
        · rw [o3] at q; exact absurd q (by decide)
        · rw [o3] at q; exact absurd q (by decide)
        · rw [o3] at q; exact absurd q (by decide)
        · exact v156_sig_61 hk k60 (by omega) ((ha i (by omega)).trans o3) q (by omega) w
      · have w := ih (i + 1) (some (.int 62)) (by omega)
        rw [ev_sig (s := 62) o3 (by omega) (by omega) (by omega) (by omega)] at w
        rcases ok with (q | q) | ⟨q, -⟩ | ⟨-, -, -, q⟩
        · rw [o3] at q; exact absurd q (by decide)
        · rw [o3] at q; exact absurd q (by decide)
        · rw [o3] at q; exact absurd q (by decide)
        · exact v156_sig_62 hk k60 (by omega) ((ha i (by omega)).trans o3) q (by omega) w
      · have w := ih (i + 1) (some (.int 43)) (by omega)
        rw [ev_sig (s := 43) o3 (by omega) (by omega) (by omega) (by omega)] at w
        rcases ok with (q | q) | ⟨q, -⟩ | ⟨-, -, -, q⟩
        · rw [o3] at q; exact absurd q (by decide)
        · rw [o3] at q; exact absurd q (by decide)
        · rw [o3] at q; exact absurd q (by decide)
        · exact v156_sig_43 hk k60 (by omega) ((ha i (by omega)).trans o3) q (by omega) w
      · have w := ih (i + 1) (some (.int 45)) (by omega)
        rw [ev_sig (s := 45) o3 (by omega) (by omega) (by omega) (by omega)] at w
        rcases ok with (q | q) | ⟨q, -⟩ | ⟨-, -, -, q⟩
        · rw [o3] at q; exact absurd q (by decide)
        · rw [o3] at q; exact absurd q (by decide)
        · rw [o3] at q; exact absurd q (by decide)
        · exact v156_sig_45 hk k60 (by omega) ((ha i (by omega)).trans o3) q (by omega) w
      · have w := ih (i + 1) (some (.int 42)) (by omega)
        rw [ev_sig (s := 42) o3 (by omega) (by omega) (by omega) (by omega)] at w
        rcases ok with (q | q) | ⟨q, -⟩ | ⟨-, -, -, q⟩
        · rw [o3] at q; exact absurd q (by decide)
        · rw [o3] at q; exact absurd q (by decide)
        · rw [o3] at q; exact absurd q (by decide)
        · exact v156_sig_42 hk k60 (by omega) ((ha i (by omega)).trans o3) q (by omega) w
      · have w := ih (i + 1) (some (.int 47)) (by omega)
        rw [ev_sig (s := 47) o3 (by omega) (by omega) (by omega) (by omega)] at w
        rcases ok with (q | q) | ⟨q, -⟩ | ⟨-, -, -, q⟩
        · rw [o3] at q; exact absurd q (by decide)
        · rw [o3] at q; exact absurd q (by decide)
        · rw [o3] at q; exact absurd q (by decide)
        · exact v156_sig_47 hk k60 (by omega) ((ha i (by omega)).trans o3) q (by omega) w
      · have w := ih (i + 1) (some (.int 37)) (by omega)
        rw [ev_sig (s := 37) o3 (by omega) (by omega) (by omega) (by omega)] at w
        rcases ok with (q | q) | ⟨q, -⟩ | ⟨-, -, -, q⟩
        · rw [o3] at q; exact absurd q (by decide)
        · rw [o3] at q; exact absurd q (by decide)
        · rw [o3] at q; exact absurd q (by decide)
        · exact v156_sig_37 hk k60 (by omega) ((ha i (by omega)).trans o3) q (by omega) w
set_option maxRecDepth 100000 in
set_option maxHeartbeats 4000000 in
theorem c_works156 {ro : xRO} {d : Nat} {M : xM} {T : Nat} {act wit : Nat → Int32} {k : Nat} (hk : M 62 156 = nI k) (k60 : k ≤ 60) (ha : ∀ i, i < k → M 62 (157 + i) = act i) (hw : ∀ i, i < k → M 62 (217 + i) = wit i) (hwf : wfS act wit k) (hs : stkT act k = some 1) {f : Nat → Int32} (hf : ∀ u, u ≤ 2 → M 70 u = f u) : Rn ro (d + 2) M_X8_works 0 [some (.ref 64), some (.int 156), none, none, none] [] (mk M T) (fun r h => r = some (.int (evR k act wit f)) ∧ h = mk (upA M 71 (evT (M 71) act wit f k).2) T) := by
  refine R_go 4 (pc' := 4) (L' := [some (.ref 64), some (.int 156), some (.int 0), some (.int 0), none]) (st' := []) (h' := mk M T) (fun _ => rfl) ?_
  have w := lp_works156 (ro := ro) (d := d) (T := T) hk k60 ha hw hwf hs k 0 none (Nat.zero_add k)
  have cg : ∀ i, i < k → act i = 2 → M 70 (wit i).toNatClampNeg = f (wit i).toNatClampNeg := by
    intro i hi h2
    rcases hwf i hi with ⟨o1, -⟩ | ⟨-, u, u2, o2⟩ | o3 | o3
    · rw [h2] at o1; exact absurd o1 (by decide)
    · rw [o2, nI_clamp (by omega)]; exact hf u u2
    · rw [h2] at o3; exact absurd o3 (by decide)
    · rw [h2] at o3; exact absurd o3 (by unfold sgnT; decide)
  rw [show (evT (M 71) act wit (M 70) 0).2 = M 71 from rfl, upA_id, ev_congr cg k (Nat.le_refl k)] at w
  unfold evR at w ⊢
  rw [ev_congr cg k (Nat.le_refl k)] at w
  exact w
theorem hf_3 {M : xM} {a b c : Int32} : ∀ u, u ≤ 2 → (up (up (up M 70 0 a) 70 1 b) 70 2 c) 70 u = fc3 a b c u := by
  intro u hu
  rcases (by omega : u = 0 ∨ u = 1 ∨ u = 2) with rfl | rfl | rfl <;> rfl
set_option maxRecDepth 100000 in
set_option maxHeartbeats 4000000 in
theorem m_gives0_1 {ro : xRO} {d : Nat} {M : xM} {T : Nat} {act wit : Nat → Int32} {k : Nat} (hk : M 62 156 = nI k) (k60 : k ≤ 60) (ha : ∀ i, i < k → M 62 (157 + i) = act i) (hw : ∀ i, i < k → M 62 (217 + i) = wit i) (hwf : wfS act wit k) {a b c : Int32} (hs : ¬ k = 0 → stkT act k = some 1) (k0 : k = 0) : Rn ro (d + 3) M_X8_gives 0 [some (.ref 64), some (.int 0), some (.int a), some (.int b), some (.int c), none, none] [] (mk M T) (fun r h => r = some (.int (heldX (lawX 0 k act wit a b c) 1 9)) ∧ h = mk (upA (up (up (up M 70 0 a) 70 1 b) 70 2 c) 71 (evT (M 71) act wit (fc3 a b c) k).2) T) := by
  have hf3 := hf_3 (M := M) (a := a) (b := b) (c := c)
  refine R_go 25 (pc' := 39) (L' := [some (.ref 64), some (.int 0), some (.int a), some (.int b), some (.int c), some (.int 156), none]) (st' := [.int ((up (up (up M 70 0 a) 70 1 b) 70 2 c) 62 156)]) (h' := mk (up (up (up M 70 0 a) 70 1 b) 70 2 c) T) (fun _ => rfl) ?_
  refine R_top (y := nI k) (hk) ?_
  refine R_if 1 (c := (nI k) ≤ 0) (t := 51) (f := 42) (L' := [some (.ref 64), some (.int 0), some (.int a), some (.int b), some (.int c), some (.int 156), none]) (st' := []) (h' := mk (up (up (up M 70 0 a) 70 1 b) 70 2 c) T) (fun _ => rfl) (fun g1 => ?_) (fun g1 => ?_)
  · replace g1 : k ≤ 0 := (nI_leI (a := k) (b := 0) (by omega) (by omega)).mp g1
    refine R_go 10 (pc' := 73) (L' := [some (.ref 64), some (.int 0), some (.int a), some (.int b), some (.int c), some (.int 156), some (.int 1)]) (st' := [.int 9, .int 1, .int 1]) (h' := mk (up (up (up M 70 0 a) 70 1 b) 70 2 c) T) (fun _ => rfl) ?_
    refine R_callD (i := .invokestatic 61) (kd := 1) (y := M_X8_held) (as := [.int 1, .int 1, .int 9]) (r := []) (L0 := [some (.int 1), some (.int 1), some (.int 9)]) (v := some (.int (heldY 1 1 9))) (h' := mk (up (up (up M 70 0 a) 70 1 b) 70 2 c) T) (pc' := 76) (st' := [.int (heldY 1 1 9)]) rfl rfl rfl rfl rfl rfl (m_held) ?_
    refine R_ret 2 (pcr := 88) (v := some (.int (heldY 1 1 9))) (h' := mk (up (up (up M 70 0 a) 70 1 b) 70 2 c) T) (fun _ => rfl) ?_
    exact ⟨by rw [lawX, if_pos k0, heldY_X (by decide)]; rfl, by rw [k0]; exact congrArg (fun z => mk z T) (upA_id (M := (up (up (up M 70 0 a) 70 1 b) 70 2 c))).symm⟩
  · replace g1 : ¬ k ≤ 0 := fun q => g1 ((nI_leI (a := k) (b := 0) (by omega) (by omega)).mpr q)
    omega
set_option maxRecDepth 100000 in
set_option maxHeartbeats 4000000 in
theorem m_gives0_0 {ro : xRO} {d : Nat} {M : xM} {T : Nat} {act wit : Nat → Int32} {k : Nat} (hk : M 62 156 = nI k) (k60 : k ≤ 60) (ha : ∀ i, i < k → M 62 (157 + i) = act i) (hw : ∀ i, i < k → M 62 (217 + i) = wit i) (hwf : wfS act wit k) {a b c : Int32} (hs : ¬ k = 0 → stkT act k = some 1) (k0 : ¬ k = 0) : Rn ro (d + 3) M_X8_gives 0 [some (.ref 64), some (.int 0), some (.int a), some (.int b), some (.int c), none, none] [] (mk M T) (fun r h => r = some (.int (heldX (lawX 0 k act wit a b c) 1 9)) ∧ h = mk (upA (up (up (up M 70 0 a) 70 1 b) 70 2 c) 71 (evT (M 71) act wit (fc3 a b c) k).2) T) := by
  have hf3 := hf_3 (M := M) (a := a) (b := b) (c := c)
  refine R_go 25 (pc' := 39) (L' := [some (.ref 64), some (.int 0), some (.int a), some (.int b), some (.int c), some (.int 156), none]) (st' := [.int ((up (up (up M 70 0 a) 70 1 b) 70 2 c) 62 156)]) (h' := mk (up (up (up M 70 0 a) 70 1 b) 70 2 c) T) (fun _ => rfl) ?_
  refine R_top (y := nI k) (hk) ?_
  refine R_if 1 (c := (nI k) ≤ 0) (t := 51) (f := 42) (L' := [some (.ref 64), some (.int 0), some (.int a), some (.int b), some (.int c), some (.int 156), none]) (st' := []) (h' := mk (up (up (up M 70 0 a) 70 1 b) 70 2 c) T) (fun _ => rfl) (fun g1 => ?_) (fun g1 => ?_)
  · replace g1 : k ≤ 0 := (nI_leI (a := k) (b := 0) (by omega) (by omega)).mp g1
    omega
  · replace g1 : ¬ k ≤ 0 := fun q => g1 ((nI_leI (a := k) (b := 0) (by omega) (by omega)).mpr q)
    refine R_go 2 (pc' := 45) (L' := [some (.ref 64), some (.int 0), some (.int a), some (.int b), some (.int c), some (.int 156), none]) (st' := [.int 156, .ref 64]) (h' := mk (up (up (up M 70 0 a) 70 1 b) 70 2 c) T) (fun _ => rfl) ?_
    refine R_callD (i := .invokevirtual 156) (kd := 0) (y := M_X8_works) (as := [.ref 64, .int 156]) (r := []) (L0 := [some (.ref 64), some (.int 156), none, none, none]) (v := some (.int (evR k act wit (fc3 a b c)))) (h' := mk (upA (up (up (up M 70 0 a) 70 1 b) 70 2 c) 71 (evT (M 71) act wit (fc3 a b c) k).2) T) (pc' := 48) (st' := [.int (evR k act wit (fc3 a b c))]) rfl rfl rfl rfl rfl rfl (c_works156 (M := up (up (up M 70 0 a) 70 1 b) 70 2 c) (f := fc3 a b c) hk k60 ha hw hwf (hs k0) hf3) ?_
    refine R_go 7 (pc' := 73) (L' := [some (.ref 64), some (.int 0), some (.int a), some (.int b), some (.int c), some (.int 156), some (.int (evR k act wit (fc3 a b c)))]) (st' := [.int 9, .int 1, .int (evR k act wit (fc3 a b c))]) (h' := mk (upA (up (up (up M 70 0 a) 70 1 b) 70 2 c) 71 (evT (M 71) act wit (fc3 a b c) k).2) T) (fun _ => rfl) ?_
    refine R_callD (i := .invokestatic 61) (kd := 1) (y := M_X8_held) (as := [.int (evR k act wit (fc3 a b c)), .int 1, .int 9]) (r := []) (L0 := [some (.int (evR k act wit (fc3 a b c))), some (.int 1), some (.int 9)]) (v := some (.int (heldY (evR k act wit (fc3 a b c)) 1 9))) (h' := mk (upA (up (up (up M 70 0 a) 70 1 b) 70 2 c) 71 (evT (M 71) act wit (fc3 a b c) k).2) T) (pc' := 76) (st' := [.int (heldY (evR k act wit (fc3 a b c)) 1 9)]) rfl rfl rfl rfl rfl rfl (m_held) ?_
    refine R_ret 2 (pcr := 88) (v := some (.int (heldY (evR k act wit (fc3 a b c)) 1 9))) (h' := mk (upA (up (up (up M 70 0 a) 70 1 b) 70 2 c) 71 (evT (M 71) act wit (fc3 a b c) k).2) T) (fun _ => rfl) ?_
    exact ⟨by rw [lawX, if_neg k0, heldY_X (by decide)], rfl⟩
theorem m_gives0 {ro : xRO} {d : Nat} {M : xM} {T : Nat} {act wit : Nat → Int32} {k : Nat} (hk : M 62 156 = nI k) (k60 : k ≤ 60) (ha : ∀ i, i < k → M 62 (157 + i) = act i) (hw : ∀ i, i < k → M 62 (217 + i) = wit i) (hwf : wfS act wit k) {a b c : Int32} (hs : ¬ k = 0 → stkT act k = some 1) : Rn ro (d + 3) M_X8_gives 0 [some (.ref 64), some (.int 0), some (.int a), some (.int b), some (.int c), none, none] [] (mk M T) (fun r h => r = some (.int (heldX (lawX 0 k act wit a b c) 1 9)) ∧ h = mk (upA (up (up (up M 70 0 a) 70 1 b) 70 2 c) 71 (evT (M 71) act wit (fc3 a b c) k).2) T) := by
  by_cases k0 : k = 0
  · exact m_gives0_1 hk k60 ha hw hwf hs k0
  · exact m_gives0_0 hk k60 ha hw hwf hs k0
set_option maxRecDepth 100000 in
set_option maxHeartbeats 4000000 in
theorem v277_end {ro : xRO} {d : Nat} {M : xM} {T : Nat}  {g : Nat → Int32} {t k : Nat} {w : Option Value} (hk : M 62 277 = nI k) (k60 : k ≤ 60) : Rn ro (d + 2) M_X8_works 4 [some (.ref 64), some (.int 277), some (.int (nI t)), some (.int (nI k)), w] [] (mk (upA M 71 g) T) (fun r h => r = some (.int (g 0)) ∧ h = mk (upA M 71 g) T) := by
  refine R_go 5 (pc' := 11) (L' := [some (.ref 64), some (.int 277), some (.int (nI t)), some (.int (nI k)), w]) (st' := [.int ((upA M 71 g) 62 277), .int (nI k)]) (h' := mk (upA M 71 g) T) (fun _ => rfl) ?_
  refine R_top (y := nI k) (hk) ?_
  refine R_if 1 (c := (nI k) ≤ (nI k)) (t := 155) (f := 14) (L' := [some (.ref 64), some (.int 277), some (.int (nI t)), some (.int (nI k)), w]) (st' := []) (h' := mk (upA M 71 g) T) (fun _ => rfl) (fun g1 => ?_) (fun g1 => ?_)
  · replace g1 : k ≤ k := (nI_leI (a := k) (b := k) (by omega) (by omega)).mp g1
    refine R_go 4 (pc' := 161) (L' := [some (.ref 64), some (.int 277), some (.int (nI t)), some (.int (nI k)), w]) (st' := [.int ((upA M 71 g) 71 0)]) (h' := mk (upA M 71 g) T) (fun _ => rfl) ?_
    refine R_top (y := g 0) (congrFun upA_eq _) ?_
    refine R_ret 1 (pcr := 161) (v := some (.int (g 0))) (h' := mk (upA M 71 g) T) (fun _ => rfl) ?_
    exact ⟨rfl, rfl⟩
  · replace g1 : ¬ k ≤ k := fun q => g1 ((nI_leI (a := k) (b := k) (by omega) (by omega)).mpr q)
    omega
set_option maxRecDepth 100000 in
set_option maxHeartbeats 4000000 in
theorem lp_works277 {ro : xRO} {d : Nat} {M : xM} {T : Nat} {act wit : Nat → Int32} {k : Nat} (hk : M 62 277 = nI k) (k60 : k ≤ 60) (ha : ∀ i, i < k → M 62 (278 + i) = act i) (hw : ∀ i, i < k → M 62 (338 + i) = wit i) (hwf : wfS act wit k) (hs : stkT act k = some 1) : ∀ (r i : Nat) (w : Option Value), i + r = k → Rn ro (d + 2) M_X8_works 4 [some (.ref 64), some (.int 277), some (.int (nI ((evT (M 71) act wit (M 70) i).1))), some (.int (nI i)), w] [] (mk (upA M 71 (evT (M 71) act wit (M 70) i).2) T) (fun r h => r = some (.int (evR k act wit (M 70))) ∧ h = mk (upA M 71 (evT (M 71) act wit (M 70) k).2) T) := by
  intro r
  induction r with
  | zero =>
    intro i w hi
    obtain rfl : i = k := by omega
    refine (v277_end hk k60).imp (fun _ _ q => ⟨?_, q.2⟩)
    rw [q.1, ev_R hs]
  | succ r ih =>
    intro i w hi
    obtain ⟨ok, oi⟩ := stk_ok (s0 := M 71) (w := wit) (f := M 70) hs (show i < k by omega)
    rcases hwf i (by omega) with ⟨o1, v, v4, o2⟩ | ⟨o1, u, u2, o2⟩ | o3 | o3
    · have w := ih (i + 1) (some (.int 1)) (by omega)
      rw [ev_push o1] at w
      exact v277_push hk k60 (by omega) ((ha i (by omega)).trans o1) (hw i (by omega)) (by omega) w
    · have w := ih (i + 1) (some (.int 2)) (by omega)
      rw [ev_name o1, o2, nI_clamp (by omega)] at w
      exact v277_name hk k60 (by omega) ((ha i (by omega)).trans o1) u2 ((hw i (by omega)).trans o2) (by omega) w
    · have w := ih (i + 1) (some (.int 3)) (by omega)
      rw [ev_not o3] at w
      rcases ok with (q | q) | ⟨-, q⟩ | ⟨-, -, q, -⟩
      · rw [o3] at q; exact absurd q (by decide)
      · rw [o3] at q; exact absurd q (by decide)
      · exact v277_not hk k60 (by omega) ((ha i (by omega)).trans o3) q (by omega) w
      · exact absurd o3 q
    · rcases o3 with o3 | o3 | o3 | o3 | o3 | o3 | o3 | o3 | o3 | o3
      · have w := ih (i + 1) (some (.int 124)) (by omega)
        rw [ev_sig (s := 124) o3 (by omega) (by omega) (by omega) (by omega)] at w
        rcases ok with (q | q) | ⟨q, -⟩ | ⟨-, -, -, q⟩
        · rw [o3] at q; exact absurd q (by decide)
        · rw [o3] at q; exact absurd q (by decide)
        · rw [o3] at q; exact absurd q (by decide)
        · exact v277_sig_124 hk k60 (by omega) ((ha i (by omega)).trans o3) q (by omega) w
      · have w := ih (i + 1) (some (.int 38)) (by omega)
        rw [ev_sig (s := 38) o3 (by omega) (by omega) (by omega) (by omega)] at w
        rcases ok with (q | q) | ⟨q, -⟩ | ⟨-, -, -, q⟩
        · rw [o3] at q; exact absurd q (by decide)
        · rw [o3] at q; exact absurd q (by decide)
        · rw [o3] at q; exact absurd q (by decide)
        · exact v277_sig_38 hk k60 (by omega) ((ha i (by omega)).trans o3) q (by omega) w
      · have w := ih (i + 1) (some (.int 60)) (by omega)
        rw [ev_sig (s := 60) o3 (by omega) (by omega) (by omega) (by omega)] at w
        rcases ok with (q | q) | ⟨q, -⟩ | ⟨-, -, -, q⟩
        · rw [o3] at q; exact absurd q (by decide)
        · rw [o3] at q; exact absurd q (by decide)
        · rw [o3] at q; exact absurd q (by decide)
        · exact v277_sig_60 hk k60 (by omega) ((ha i (by omega)).trans o3) q (by omega) w
      · have w := ih (i + 1) (some (.int 61)) (by omega)
        rw [ev_sig (s := 61) o3 (by omega) (by omega) (by omega) (by omega)] at w
        rcases ok with (q | q) | ⟨q, -⟩ | ⟨-, -, -, q⟩
        · rw [o3] at q; exact absurd q (by decide)
        · rw [o3] at q; exact absurd q (by decide)
        · rw [o3] at q; exact absurd q (by decide)
        · exact v277_sig_61 hk k60 (by omega) ((ha i (by omega)).trans o3) q (by omega) w
      · have w := ih (i + 1) (some (.int 62)) (by omega)
        rw [ev_sig (s := 62) o3 (by omega) (by omega) (by omega) (by omega)] at w
        rcases ok with (q | q) | ⟨q, -⟩ | ⟨-, -, -, q⟩
        · rw [o3] at q; exact absurd q (by decide)
        · rw [o3] at q; exact absurd q (by decide)
        · rw [o3] at q; exact absurd q (by decide)
        · exact v277_sig_62 hk k60 (by omega) ((ha i (by omega)).trans o3) q (by omega) w
      · have w := ih (i + 1) (some (.int 43)) (by omega)
        rw [ev_sig (s := 43) o3 (by omega) (by omega) (by omega) (by omega)] at w
        rcases ok with (q | q) | ⟨q, -⟩ | ⟨-, -, -, q⟩
        · rw [o3] at q; exact absurd q (by decide)
        · rw [o3] at q; exact absurd q (by decide)
        · rw [o3] at q; exact absurd q (by decide)
        · exact v277_sig_43 hk k60 (by omega) ((ha i (by omega)).trans o3) q (by omega) w
      · have w := ih (i + 1) (some (.int 45)) (by omega)
        rw [ev_sig (s := 45) o3 (by omega) (by omega) (by omega) (by omega)] at w
        rcases ok with (q | q) | ⟨q, -⟩ | ⟨-, -, -, q⟩
        · rw [o3] at q; exact absurd q (by decide)
        · rw [o3] at q; exact absurd q (by decide)
        · rw [o3] at q; exact absurd q (by decide)
        · exact v277_sig_45 hk k60 (by omega) ((ha i (by omega)).trans o3) q (by omega) w
      · have w := ih (i + 1) (some (.int 42)) (by omega)
        rw [ev_sig (s := 42) o3 (by omega) (by omega) (by omega) (by omega)] at w
        rcases ok with (q | q) | ⟨q, -⟩ | ⟨-, -, -, q⟩
        · rw [o3] at q; exact absurd q (by decide)
        · rw [o3] at q; exact absurd q (by decide)
        · rw [o3] at q; exact absurd q (by decide)
        · exact v277_sig_42 hk k60 (by omega) ((ha i (by omega)).trans o3) q (by omega) w
      · have w := ih (i + 1) (some (.int 47)) (by omega)
        rw [ev_sig (s := 47) o3 (by omega) (by omega) (by omega) (by omega)] at w
        rcases ok with (q | q) | ⟨q, -⟩ | ⟨-, -, -, q⟩
        · rw [o3] at q; exact absurd q (by decide)
        · rw [o3] at q; exact absurd q (by decide)
        · rw [o3] at q; exact absurd q (by decide)
        · exact v277_sig_47 hk k60 (by omega) ((ha i (by omega)).trans o3) q (by omega) w
      · have w := ih (i + 1) (some (.int 37)) (by omega)
        rw [ev_sig (s := 37) o3 (by omega) (by omega) (by omega) (by omega)] at w
        rcases ok with (q | q) | ⟨q, -⟩ | ⟨-, -, -, q⟩
        · rw [o3] at q; exact absurd q (by decide)
        · rw [o3] at q; exact absurd q (by decide)
        · rw [o3] at q; exact absurd q (by decide)
        · exact v277_sig_37 hk k60 (by omega) ((ha i (by omega)).trans o3) q (by omega) w
set_option maxRecDepth 100000 in
set_option maxHeartbeats 4000000 in
theorem c_works277 {ro : xRO} {d : Nat} {M : xM} {T : Nat} {act wit : Nat → Int32} {k : Nat} (hk : M 62 277 = nI k) (k60 : k ≤ 60) (ha : ∀ i, i < k → M 62 (278 + i) = act i) (hw : ∀ i, i < k → M 62 (338 + i) = wit i) (hwf : wfS act wit k) (hs : stkT act k = some 1) {f : Nat → Int32} (hf : ∀ u, u ≤ 2 → M 70 u = f u) : Rn ro (d + 2) M_X8_works 0 [some (.ref 64), some (.int 277), none, none, none] [] (mk M T) (fun r h => r = some (.int (evR k act wit f)) ∧ h = mk (upA M 71 (evT (M 71) act wit f k).2) T) := by
  refine R_go 4 (pc' := 4) (L' := [some (.ref 64), some (.int 277), some (.int 0), some (.int 0), none]) (st' := []) (h' := mk M T) (fun _ => rfl) ?_
  have w := lp_works277 (ro := ro) (d := d) (T := T) hk k60 ha hw hwf hs k 0 none (Nat.zero_add k)
  have cg : ∀ i, i < k → act i = 2 → M 70 (wit i).toNatClampNeg = f (wit i).toNatClampNeg := by
    intro i hi h2
    rcases hwf i hi with ⟨o1, -⟩ | ⟨-, u, u2, o2⟩ | o3 | o3
    · rw [h2] at o1; exact absurd o1 (by decide)
    · rw [o2, nI_clamp (by omega)]; exact hf u u2
    · rw [h2] at o3; exact absurd o3 (by decide)
    · rw [h2] at o3; exact absurd o3 (by unfold sgnT; decide)
  rw [show (evT (M 71) act wit (M 70) 0).2 = M 71 from rfl, upA_id, ev_congr cg k (Nat.le_refl k)] at w
  unfold evR at w ⊢
  rw [ev_congr cg k (Nat.le_refl k)] at w
  exact w
set_option maxRecDepth 100000 in
set_option maxHeartbeats 4000000 in
theorem m_gives1_1 {ro : xRO} {d : Nat} {M : xM} {T : Nat} {act wit : Nat → Int32} {k : Nat} (hk : M 62 277 = nI k) (k60 : k ≤ 60) (ha : ∀ i, i < k → M 62 (278 + i) = act i) (hw : ∀ i, i < k → M 62 (338 + i) = wit i) (hwf : wfS act wit k) {a b c : Int32} (hs : ¬ k = 0 → stkT act k = some 1) (k0 : k = 0) : Rn ro (d + 3) M_X8_gives 0 [some (.ref 64), some (.int 1), some (.int a), some (.int b), some (.int c), none, none] [] (mk M T) (fun r h => r = some (.int (heldX (lawX 1 k act wit a b c) 0 9999)) ∧ h = mk (upA (up (up (up M 70 0 a) 70 1 b) 70 2 c) 71 (evT (M 71) act wit (fc3 a b c) k).2) T) := by
  have hf3 := hf_3 (M := M) (a := a) (b := b) (c := c)
  refine R_go 25 (pc' := 39) (L' := [some (.ref 64), some (.int 1), some (.int a), some (.int b), some (.int c), some (.int 277), none]) (st' := [.int ((up (up (up M 70 0 a) 70 1 b) 70 2 c) 62 277)]) (h' := mk (up (up (up M 70 0 a) 70 1 b) 70 2 c) T) (fun _ => rfl) ?_
  refine R_top (y := nI k) (hk) ?_
  refine R_if 1 (c := (nI k) ≤ 0) (t := 51) (f := 42) (L' := [some (.ref 64), some (.int 1), some (.int a), some (.int b), some (.int c), some (.int 277), none]) (st' := []) (h' := mk (up (up (up M 70 0 a) 70 1 b) 70 2 c) T) (fun _ => rfl) (fun g1 => ?_) (fun g1 => ?_)
  · replace g1 : k ≤ 0 := (nI_leI (a := k) (b := 0) (by omega) (by omega)).mp g1
    refine R_go 11 (pc' := 85) (L' := [some (.ref 64), some (.int 1), some (.int a), some (.int b), some (.int c), some (.int 277), some (.int (a * b))]) (st' := [.int 9999, .int 0, .int (a * b)]) (h' := mk (up (up (up M 70 0 a) 70 1 b) 70 2 c) T) (fun _ => rfl) ?_
    refine R_callD (i := .invokestatic 61) (kd := 1) (y := M_X8_held) (as := [.int (a * b), .int 0, .int 9999]) (r := []) (L0 := [some (.int (a * b)), some (.int 0), some (.int 9999)]) (v := some (.int (heldY (a * b) 0 9999))) (h' := mk (up (up (up M 70 0 a) 70 1 b) 70 2 c) T) (pc' := 88) (st' := [.int (heldY (a * b) 0 9999)]) rfl rfl rfl rfl rfl rfl (m_held) ?_
    refine R_ret 1 (pcr := 88) (v := some (.int (heldY (a * b) 0 9999))) (h' := mk (up (up (up M 70 0 a) 70 1 b) 70 2 c) T) (fun _ => rfl) ?_
    exact ⟨by rw [lawX, if_pos k0, heldY_X (by decide)]; rfl, by rw [k0]; exact congrArg (fun z => mk z T) (upA_id (M := (up (up (up M 70 0 a) 70 1 b) 70 2 c))).symm⟩
  · replace g1 : ¬ k ≤ 0 := fun q => g1 ((nI_leI (a := k) (b := 0) (by omega) (by omega)).mpr q)
    omega
set_option maxRecDepth 100000 in
set_option maxHeartbeats 4000000 in
theorem m_gives1_0 {ro : xRO} {d : Nat} {M : xM} {T : Nat} {act wit : Nat → Int32} {k : Nat} (hk : M 62 277 = nI k) (k60 : k ≤ 60) (ha : ∀ i, i < k → M 62 (278 + i) = act i) (hw : ∀ i, i < k → M 62 (338 + i) = wit i) (hwf : wfS act wit k) {a b c : Int32} (hs : ¬ k = 0 → stkT act k = some 1) (k0 : ¬ k = 0) : Rn ro (d + 3) M_X8_gives 0 [some (.ref 64), some (.int 1), some (.int a), some (.int b), some (.int c), none, none] [] (mk M T) (fun r h => r = some (.int (heldX (lawX 1 k act wit a b c) 0 9999)) ∧ h = mk (upA (up (up (up M 70 0 a) 70 1 b) 70 2 c) 71 (evT (M 71) act wit (fc3 a b c) k).2) T) := by
  have hf3 := hf_3 (M := M) (a := a) (b := b) (c := c)
  refine R_go 25 (pc' := 39) (L' := [some (.ref 64), some (.int 1), some (.int a), some (.int b), some (.int c), some (.int 277), none]) (st' := [.int ((up (up (up M 70 0 a) 70 1 b) 70 2 c) 62 277)]) (h' := mk (up (up (up M 70 0 a) 70 1 b) 70 2 c) T) (fun _ => rfl) ?_
  refine R_top (y := nI k) (hk) ?_
  refine R_if 1 (c := (nI k) ≤ 0) (t := 51) (f := 42) (L' := [some (.ref 64), some (.int 1), some (.int a), some (.int b), some (.int c), some (.int 277), none]) (st' := []) (h' := mk (up (up (up M 70 0 a) 70 1 b) 70 2 c) T) (fun _ => rfl) (fun g1 => ?_) (fun g1 => ?_)
  · replace g1 : k ≤ 0 := (nI_leI (a := k) (b := 0) (by omega) (by omega)).mp g1
    omega
  · replace g1 : ¬ k ≤ 0 := fun q => g1 ((nI_leI (a := k) (b := 0) (by omega) (by omega)).mpr q)
    refine R_go 2 (pc' := 45) (L' := [some (.ref 64), some (.int 1), some (.int a), some (.int b), some (.int c), some (.int 277), none]) (st' := [.int 277, .ref 64]) (h' := mk (up (up (up M 70 0 a) 70 1 b) 70 2 c) T) (fun _ => rfl) ?_
    refine R_callD (i := .invokevirtual 156) (kd := 0) (y := M_X8_works) (as := [.ref 64, .int 277]) (r := []) (L0 := [some (.ref 64), some (.int 277), none, none, none]) (v := some (.int (evR k act wit (fc3 a b c)))) (h' := mk (upA (up (up (up M 70 0 a) 70 1 b) 70 2 c) 71 (evT (M 71) act wit (fc3 a b c) k).2) T) (pc' := 48) (st' := [.int (evR k act wit (fc3 a b c))]) rfl rfl rfl rfl rfl rfl (c_works277 (M := up (up (up M 70 0 a) 70 1 b) 70 2 c) (f := fc3 a b c) hk k60 ha hw hwf (hs k0) hf3) ?_
    refine R_go 7 (pc' := 85) (L' := [some (.ref 64), some (.int 1), some (.int a), some (.int b), some (.int c), some (.int 277), some (.int (evR k act wit (fc3 a b c)))]) (st' := [.int 9999, .int 0, .int (evR k act wit (fc3 a b c))]) (h' := mk (upA (up (up (up M 70 0 a) 70 1 b) 70 2 c) 71 (evT (M 71) act wit (fc3 a b c) k).2) T) (fun _ => rfl) ?_
    refine R_callD (i := .invokestatic 61) (kd := 1) (y := M_X8_held) (as := [.int (evR k act wit (fc3 a b c)), .int 0, .int 9999]) (r := []) (L0 := [some (.int (evR k act wit (fc3 a b c))), some (.int 0), some (.int 9999)]) (v := some (.int (heldY (evR k act wit (fc3 a b c)) 0 9999))) (h' := mk (upA (up (up (up M 70 0 a) 70 1 b) 70 2 c) 71 (evT (M 71) act wit (fc3 a b c) k).2) T) (pc' := 88) (st' := [.int (heldY (evR k act wit (fc3 a b c)) 0 9999)]) rfl rfl rfl rfl rfl rfl (m_held) ?_
    refine R_ret 1 (pcr := 88) (v := some (.int (heldY (evR k act wit (fc3 a b c)) 0 9999))) (h' := mk (upA (up (up (up M 70 0 a) 70 1 b) 70 2 c) 71 (evT (M 71) act wit (fc3 a b c) k).2) T) (fun _ => rfl) ?_
    exact ⟨by rw [lawX, if_neg k0, heldY_X (by decide)], rfl⟩
theorem m_gives1 {ro : xRO} {d : Nat} {M : xM} {T : Nat} {act wit : Nat → Int32} {k : Nat} (hk : M 62 277 = nI k) (k60 : k ≤ 60) (ha : ∀ i, i < k → M 62 (278 + i) = act i) (hw : ∀ i, i < k → M 62 (338 + i) = wit i) (hwf : wfS act wit k) {a b c : Int32} (hs : ¬ k = 0 → stkT act k = some 1) : Rn ro (d + 3) M_X8_gives 0 [some (.ref 64), some (.int 1), some (.int a), some (.int b), some (.int c), none, none] [] (mk M T) (fun r h => r = some (.int (heldX (lawX 1 k act wit a b c) 0 9999)) ∧ h = mk (upA (up (up (up M 70 0 a) 70 1 b) 70 2 c) 71 (evT (M 71) act wit (fc3 a b c) k).2) T) := by
  by_cases k0 : k = 0
  · exact m_gives1_1 hk k60 ha hw hwf hs k0
  · exact m_gives1_0 hk k60 ha hw hwf hs k0
set_option maxRecDepth 100000 in
set_option maxHeartbeats 4000000 in
theorem x_law_0 {ro : xRO} {d : Nat} {M : xM} {T : Nat} {act wit : Nat → Int32} {k : Nat} (hk : M 14 2 = nI k) (k60 : k ≤ 60) (hst : ∀ i, i < k → M 15 i = encS (act i) (wit i)) (hwf : wfS act wit k) (hs : ¬ k = 0 → stkT act k = some 1) {a b c : Int32} : Rn ro (d + 90) M_X7_law 0 [some (.ref 3), some (.int 0), some (.int a), some (.int b), some (.int c)] [] (mk M T) (fun r h => r = some (.int (heldX (lawX 0 k act wit a b c) 1 9)) ∧ h = mk (upA M 16 (evT (M 16) act wit (fc3 a b c) k).2) T) := by
  refine R_go 7 (pc' := 12) (L' := [some (.ref 3), some (.int 0), some (.int a), some (.int b), some (.int c)]) (st' := [.int c, .int b, .int a, .ref 4]) (h' := mk M T) (fun _ => rfl) ?_
  refine R_callD (i := .invokevirtual 173) (kd := 0) (y := M_X0_tookBy) (as := [.ref 4, .int a, .int b, .int c]) (r := []) (L0 := [some (.ref 4), some (.int a), some (.int b), some (.int c)]) (v := some (.int (heldX (lawX 0 k act wit a b c) 1 9))) (h' := mk (upA M 16 (evT (M 16) act wit (fc3 a b c) k).2) T) (pc' := 15) (st' := [.int (heldX (lawX 0 k act wit a b c) 1 9)]) rfl rfl rfl rfl rfl rfl (c_tookBy hk k60 hst hwf hs) ?_
  refine R_ret 1 (pcr := 15) (v := some (.int (heldX (lawX 0 k act wit a b c) 1 9))) (h' := mk (upA M 16 (evT (M 16) act wit (fc3 a b c) k).2) T) (fun _ => rfl) ?_
  exact ⟨rfl, rfl⟩
set_option maxRecDepth 100000 in
set_option maxHeartbeats 4000000 in
theorem m_law_0 {ro : xRO} {d : Nat} {M : xM} {T : Nat} {act wit : Nat → Int32} {k : Nat} (hk : M 62 156 = nI k) (k60 : k ≤ 60) (ha : ∀ i, i < k → M 62 (157 + i) = act i) (hw : ∀ i, i < k → M 62 (217 + i) = wit i) (hwf : wfS act wit k) (hs : ¬ k = 0 → stkT act k = some 1) {a b c : Int32} : Rn ro (d + 90) M_X8_law 0 [some (.ref 64), some (.int 0), some (.int a), some (.int b), some (.int c)] [] (mk M T) (fun r h => r = some (.int (heldX (lawX 0 k act wit a b c) 1 9)) ∧ h = mk (upA (up (up (up M 70 0 a) 70 1 b) 70 2 c) 71 (evT (M 71) act wit (fc3 a b c) k).2) T) := by
  refine R_go 3 (pc' := 3) (L' := [some (.ref 64), some (.int 0), some (.int a), some (.int b), some (.int c)]) (st' := [.int 1, .int 0, .int 0]) (h' := mk M T) (fun _ => rfl) ?_
  refine R_call2 (i := .invokestatic 53) (kd := 1) (y := M_X8_in) (as := [.int 0, .int 0, .int 1]) (r := []) (L0 := [some (.int 0), some (.int 0), some (.int 1)]) (v1 := some (.int 1)) (v2 := some (.int 0)) (h1' := mk M T) (h2' := mk M T) (pc' := 6) (st1 := [.int 1]) (st2 := [.int 0]) rfl rfl rfl rfl rfl rfl (m_in) (fun h1 => ?_) (fun h1 => ?_)
  · refine R_go 6 (pc' := 15) (L' := [some (.ref 64), some (.int 0), some (.int a), some (.int b), some (.int c)]) (st' := [.int c, .int b, .int a, .int 0, .ref 64]) (h' := mk M T) (fun _ => rfl) ?_
    refine R_callD (i := .invokevirtual 76) (kd := 0) (y := M_X8_gives) (as := [.ref 64, .int 0, .int a, .int b, .int c]) (r := []) (L0 := [some (.ref 64), some (.int 0), some (.int a), some (.int b), some (.int c), none, none]) (v := some (.int (heldX (lawX 0 k act wit a b c) 1 9))) (h' := mk (upA (up (up (up M 70 0 a) 70 1 b) 70 2 c) 71 (evT (M 71) act wit (fc3 a b c) k).2) T) (pc' := 18) (st' := [.int (heldX (lawX 0 k act wit a b c) 1 9)]) rfl rfl rfl rfl rfl rfl (m_gives0 hk k60 ha hw hwf hs) ?_
    refine R_ret 2 (pcr := 27) (v := some (.int (heldX (lawX 0 k act wit a b c) 1 9))) (h' := mk (upA (up (up (up M 70 0 a) 70 1 b) 70 2 c) 71 (evT (M 71) act wit (fc3 a b c) k).2) T) (fun _ => rfl) ?_
    exact ⟨rfl, rfl⟩
  · exact absurd (by decide) h1
set_option maxRecDepth 100000 in
set_option maxHeartbeats 4000000 in
theorem x_law_1 {ro : xRO} {d : Nat} {M : xM} {T : Nat} {act wit : Nat → Int32} {k : Nat} (hk : M 17 2 = nI k) (k60 : k ≤ 60) (hst : ∀ i, i < k → M 18 i = encS (act i) (wit i)) (hwf : wfS act wit k) (hs : ¬ k = 0 → stkT act k = some 1) {a b c : Int32} : Rn ro (d + 90) M_X7_law 0 [some (.ref 3), some (.int 1), some (.int a), some (.int b), some (.int c)] [] (mk M T) (fun r h => r = some (.int (heldX (lawX 1 k act wit a b c) 0 9999)) ∧ h = mk (upA M 19 (evT (M 19) act wit (fc3 a b c) k).2) T) := by
  refine R_go 10 (pc' := 29) (L' := [some (.ref 3), some (.int 1), some (.int a), some (.int b), some (.int c)]) (st' := [.int c, .int b, .int a, .ref 4]) (h' := mk M T) (fun _ => rfl) ?_
  refine R_callD (i := .invokevirtual 177) (kd := 0) (y := M_X0_valueBy) (as := [.ref 4, .int a, .int b, .int c]) (r := []) (L0 := [some (.ref 4), some (.int a), some (.int b), some (.int c)]) (v := some (.int (heldX (lawX 1 k act wit a b c) 0 9999))) (h' := mk (upA M 19 (evT (M 19) act wit (fc3 a b c) k).2) T) (pc' := 32) (st' := [.int (heldX (lawX 1 k act wit a b c) 0 9999)]) rfl rfl rfl rfl rfl rfl (c_valueBy hk k60 hst hwf hs) ?_
  refine R_ret 2 (pcr := 40) (v := some (.int (heldX (lawX 1 k act wit a b c) 0 9999))) (h' := mk (upA M 19 (evT (M 19) act wit (fc3 a b c) k).2) T) (fun _ => rfl) ?_
  exact ⟨rfl, rfl⟩
set_option maxRecDepth 100000 in
set_option maxHeartbeats 4000000 in
theorem m_law_1 {ro : xRO} {d : Nat} {M : xM} {T : Nat} {act wit : Nat → Int32} {k : Nat} (hk : M 62 277 = nI k) (k60 : k ≤ 60) (ha : ∀ i, i < k → M 62 (278 + i) = act i) (hw : ∀ i, i < k → M 62 (338 + i) = wit i) (hwf : wfS act wit k) (hs : ¬ k = 0 → stkT act k = some 1) {a b c : Int32} : Rn ro (d + 90) M_X8_law 0 [some (.ref 64), some (.int 1), some (.int a), some (.int b), some (.int c)] [] (mk M T) (fun r h => r = some (.int (heldX (lawX 1 k act wit a b c) 0 9999)) ∧ h = mk (upA (up (up (up M 70 0 a) 70 1 b) 70 2 c) 71 (evT (M 71) act wit (fc3 a b c) k).2) T) := by
  refine R_go 3 (pc' := 3) (L' := [some (.ref 64), some (.int 1), some (.int a), some (.int b), some (.int c)]) (st' := [.int 1, .int 0, .int 1]) (h' := mk M T) (fun _ => rfl) ?_
  refine R_call2 (i := .invokestatic 53) (kd := 1) (y := M_X8_in) (as := [.int 1, .int 0, .int 1]) (r := []) (L0 := [some (.int 1), some (.int 0), some (.int 1)]) (v1 := some (.int 1)) (v2 := some (.int 0)) (h1' := mk M T) (h2' := mk M T) (pc' := 6) (st1 := [.int 1]) (st2 := [.int 0]) rfl rfl rfl rfl rfl rfl (m_in) (fun h1 => ?_) (fun h1 => ?_)
  · refine R_go 6 (pc' := 15) (L' := [some (.ref 64), some (.int 1), some (.int a), some (.int b), some (.int c)]) (st' := [.int c, .int b, .int a, .int 1, .ref 64]) (h' := mk M T) (fun _ => rfl) ?_
    refine R_callD (i := .invokevirtual 76) (kd := 0) (y := M_X8_gives) (as := [.ref 64, .int 1, .int a, .int b, .int c]) (r := []) (L0 := [some (.ref 64), some (.int 1), some (.int a), some (.int b), some (.int c), none, none]) (v := some (.int (heldX (lawX 1 k act wit a b c) 0 9999))) (h' := mk (upA (up (up (up M 70 0 a) 70 1 b) 70 2 c) 71 (evT (M 71) act wit (fc3 a b c) k).2) T) (pc' := 18) (st' := [.int (heldX (lawX 1 k act wit a b c) 0 9999)]) rfl rfl rfl rfl rfl rfl (m_gives1 hk k60 ha hw hwf hs) ?_
    refine R_ret 2 (pcr := 27) (v := some (.int (heldX (lawX 1 k act wit a b c) 0 9999))) (h' := mk (upA (up (up (up M 70 0 a) 70 1 b) 70 2 c) 71 (evT (M 71) act wit (fc3 a b c) k).2) T) (fun _ => rfl) ?_
    exact ⟨rfl, rfl⟩
  · exact absurd (by decide) h1
set_option maxRecDepth 100000 in
set_option maxHeartbeats 4000000 in
theorem x_law_n {ro : xRO} {d : Nat} {M : xM} {T : Nat} {i a b c : Int32} (u0 : ¬ i = 0) (u1 : ¬ i = 1) : Rn ro (d + 90) M_X7_law 0 [some (.ref 3), some (.int i), some (.int a), some (.int b), some (.int c)] [] (mk M T) (fun r h => r = some (.int (-1000000001)) ∧ h = mk (up M 60 1 (M 60 1 + 1)) T) := by
  refine R_ifn 2 (c := i = 0) (t := 16) (f := 4) (L' := [some (.ref 3), some (.int i), some (.int a), some (.int b), some (.int c)]) (st' := []) (h' := mk M T) (fun _ => rfl) (fun g1 => ?_) (fun g1 => ?_)
  · refine R_ifn 3 (c := i = 1) (t := 35) (f := 21) (L' := [some (.ref 3), some (.int i), some (.int a), some (.int b), some (.int c)]) (st' := []) (h' := mk M T) (fun _ => rfl) (fun g2 => ?_) (fun g2 => ?_)
    · refine R_go 2 (pc' := 37) (L' := [some (.ref 3), some (.int i), some (.int a), some (.int b), some (.int c)]) (st' := [.int 1, .ref 3]) (h' := mk M T) (fun _ => rfl) ?_
      refine R_callD (i := .invokevirtual 75) (kd := 0) (y := M_X7_error) (as := [.ref 3, .int 1]) (r := []) (L0 := [some (.ref 3), some (.int 1)]) (v := some (.int (-1000000001))) (h' := mk (up M 60 1 (M 60 1 + 1)) T) (pc' := 40) (st' := [.int (-1000000001)]) rfl rfl rfl rfl rfl rfl (c_error_1) ?_
      refine R_ret 1 (pcr := 40) (v := some (.int (-1000000001))) (h' := mk (up M 60 1 (M 60 1 + 1)) T) (fun _ => rfl) ?_
      exact ⟨rfl, rfl⟩
    · exact absurd g2 (u1)
  · exact absurd g1 (u0)
set_option maxRecDepth 100000 in
set_option maxHeartbeats 4000000 in
theorem m_law_n {ro : xRO} {d : Nat} {M : xM} {T : Nat} {i a b c : Int32} (u0 : ¬ i = 0) (u1 : ¬ i = 1) : Rn ro (d + 90) M_X8_law 0 [some (.ref 64), some (.int i), some (.int a), some (.int b), some (.int c)] [] (mk M T) (fun r h => r = some (.int (-1000000001)) ∧ h = mk (up M 64 1 (M 64 1 + 1)) T) := by
  have hi01 : ¬ (0 ≤ i ∧ i ≤ 1) := fun q => by
    rcases of_in i (b := 1) (by omega) with ⟨n, n1, rfl⟩ | z
    · rcases (by omega : n = 0 ∨ n = 1) with rfl | rfl
      · exact u0 rfl
      · exact u1 rfl
    · exact z q
  refine R_go 3 (pc' := 3) (L' := [some (.ref 64), some (.int i), some (.int a), some (.int b), some (.int c)]) (st' := [.int 1, .int 0, .int i]) (h' := mk M T) (fun _ => rfl) ?_
  refine R_call2 (i := .invokestatic 53) (kd := 1) (y := M_X8_in) (as := [.int i, .int 0, .int 1]) (r := []) (L0 := [some (.int i), some (.int 0), some (.int 1)]) (v1 := some (.int 1)) (v2 := some (.int 0)) (h1' := mk M T) (h2' := mk M T) (pc' := 6) (st1 := [.int 1]) (st2 := [.int 0]) rfl rfl rfl rfl rfl rfl (m_in) (fun g1 => ?_) (fun g1 => ?_)
  · exact absurd g1 (hi01)
  · refine R_go 3 (pc' := 24) (L' := [some (.ref 64), some (.int i), some (.int a), some (.int b), some (.int c)]) (st' := [.int (-1000000001), .ref 64]) (h' := mk M T) (fun _ => rfl) ?_
    refine R_callD (i := .invokevirtual 81) (kd := 0) (y := M_X8_error) (as := [.ref 64, .int (-1000000001)]) (r := []) (L0 := [some (.ref 64), some (.int (-1000000001))]) (v := some (.int (-1000000001))) (h' := mk (up M 64 1 (M 64 1 + 1)) T) (pc' := 27) (st' := [.int (-1000000001)]) rfl rfl rfl rfl rfl rfl (m_error_1) ?_
    refine R_ret 1 (pcr := 27) (v := some (.int (-1000000001))) (h' := mk (up M 64 1 (M 64 1 + 1)) T) (fun _ => rfl) ?_
    exact ⟨rfl, rfl⟩
/-- what Rel says of the texts -/
theorem rel_tx {M : xM} (h : Rel M) : (∃ k, M 14 2 = nI k ∧ M 62 156 = nI k ∧ k ≤ 60 ∧ (∀ i, i < k → M 15 i = encS (M 62 (157 + i)) (M 62 (217 + i))) ∧ wfS (fun i => M 62 (157 + i)) (fun i => M 62 (217 + i)) k ∧ (¬ k = 0 → stkT (fun i => M 62 (157 + i)) k = some 1)) ∧ (∃ k, M 17 2 = nI k ∧ M 62 277 = nI k ∧ k ≤ 60 ∧ (∀ i, i < k → M 18 i = encS (M 62 (278 + i)) (M 62 (338 + i))) ∧ wfS (fun i => M 62 (278 + i)) (fun i => M 62 (338 + i)) k ∧ (¬ k = 0 → stkT (fun i => M 62 (278 + i)) k = some 1)) := by
  have t1 := h.1.1.2.2.2.2.2
  obtain ⟨P, H, -, -, -, -, -, ⟨k, a1, a2, a3, a4⟩, ⟨k', b1, b2, b3, b4⟩⟩ := h.1.2
  obtain ⟨⟨c1, c2⟩, d1, d2⟩ := t1
  refine ⟨⟨k, c1.trans a2, a2, a1, fun i hi => c2 i (by rw [a2, nI_clamp (by omega)]; exact hi), a4, fun q => by rcases a3 with z | z; exact absurd z q; exact z⟩, ⟨k', d1.trans b2, b2, b1, fun i hi => d2 i (by rw [b2, nI_clamp (by omega)]; exact hi), b4, fun q => by rcases b3 with z | z; exact absurd z q; exact z⟩⟩
set_option maxHeartbeats 4000000 in
theorem op_law {ro : xRO} {M : xM} {T : Nat} (h : Rel M) {i a b c : Int32} : OpOK ro M_X7_law M_X8_law [some (.ref 3), some (.int i), some (.int a), some (.int b), some (.int c)] [some (.ref 64), some (.int i), some (.int a), some (.int b), some (.int c)] M T := by
  obtain ⟨P, H, h8, h6, pm, hm, px, hx, a, b1, b2, b3, b4, c2, c3, c4, c5⟩ := rel_all h
  clear a b1 b2 b3 b4 c2 c3 c4 c5
  obtain ⟨⟨k, x1, x2, x3, x4, x5, x6⟩, ⟨k', y1, y2, y3, y4, y5, y6⟩⟩ := rel_tx h
  by_cases u0 : i = 0
  · subst u0
    exact OpOK.of (fun d => x_law_0 x1 x3 x4 x5 x6) (fun d => m_law_0 (M := upA M 16 (evT (M 16) (fun i => M 62 (157 + i)) (fun i => M 62 (217 + i)) (fc3 a b c) k).2) x2 x3 (fun i _ => rfl) (fun i _ => rfl) x5 x6) rfl (h.irr (fun c a1 a2 a3 a4 a5 => by rw [upA_ne (by omega), up_ne (by omega), up_ne (by omega), up_ne (by omega), upA_ne (by omega)]) rfl h.2.2.2.2.2 rfl)
  · by_cases u1 : i = 1
    · subst u1
      exact OpOK.of (fun d => x_law_1 y1 y3 y4 y5 y6) (fun d => m_law_1 (M := upA M 19 (evT (M 19) (fun i => M 62 (278 + i)) (fun i => M 62 (338 + i)) (fc3 a b c) k').2) y2 y3 (fun i _ => rfl) (fun i _ => rfl) y5 y6) rfl (h.irr (fun c a1 a2 a3 a4 a5 => by rw [upA_ne (by omega), up_ne (by omega), up_ne (by omega), up_ne (by omega), upA_ne (by omega)]) rfl h.2.2.2.2.2 rfl)
    · exact OpOK.of (fun d => x_law_n u0 u1) (fun d => m_law_n (M := up M 60 1 (M 60 1 + 1)) u0 u1) rfl (h.err 1 (by omega))
