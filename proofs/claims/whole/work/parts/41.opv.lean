/-! OPERATIONS check, feed -/
def ckF (f g : Nat → Int32) (H : Nat) : Nat → Bool := fun i => !decide (i < H ∧ f i = g i)
theorem ckF_t {f g : Nat → Int32} {H i : Nat} (h : ¬ (i < H ∧ f i = g i)) : ckF f g H i = true := by
  unfold ckF
  rw [decide_eq_false h]
  rfl
theorem ckF_f {f g : Nat → Int32} {H i : Nat} (h : i < H ∧ f i = g i) : ¬ ckF f g H i = true := by
  unfold ckF
  rw [decide_eq_true h]
  decide
def ckV (x W : Nat) : Int32 := if x < W then nI (x + 1) else 0
theorem ckV_p {x W : Nat} (h : x < W) : ckV x W = nI (x + 1) := if_pos h
theorem ckV_n {x W : Nat} (h : ¬ x < W) : ckV x W = 0 := if_neg h
theorem c_hasHeir2 {ro : xRO} {d : Nat} {M : xM} {T : Nat} {H : Nat} (hH : M 1 7 = nI H) (h6 : H ≤ 6) {i : Nat} (hi : i < 2 ^ 30) : Rn ro d M_X0_hasHeir 0 [some (.ref 4), some (.int (nI i))] [] (mk M T) (fun r h => (i < H ∧ r = some (.int 1) ∧ h = mk M T) ∨ (¬ i < H ∧ r = some (.int 0) ∧ h = mk M T)) :=
  (c_hasHeir hH h6).imp (fun _ _ q => q.imp (fun w => ⟨(nI_ltI (by omega) (by omega)).mp w.1.2, w.2⟩) (fun w => ⟨fun z => w.1 ⟨nI_pos' (by omega), nI_lt z (by omega)⟩, w.2⟩))
theorem m_isHeir2 {ro : xRO} {d : Nat} {M : xM} {T : Nat} {H : Nat} (hH : M 62 7 = nI H) (h6 : H ≤ 6) {i : Nat} (hi : i < 2 ^ 30) : Rn ro (d + 1) M_X8_isHeir 0 [some (.ref 64), some (.int (nI i))] [] (mk M T) (fun r h => (i < H ∧ r = some (.int 1) ∧ h = mk M T) ∨ (¬ i < H ∧ r = some (.int 0) ∧ h = mk M T)) :=
  (m_isHeir hH h6).imp (fun _ _ q => q.imp (fun w => ⟨(nI_ltI (by omega) (by omega)).mp w.1.2, w.2⟩) (fun w => ⟨fun z => w.1 ⟨nI_pos' (by omega), nI_lt z (by omega)⟩, w.2⟩))
set_option maxRecDepth 100000 in
set_option maxHeartbeats 4000000 in
theorem lp_wrong {ro : xRO} {d : Nat} {M : xM} {T : Nat}  {H : Nat} (hH : M 1 7 = nI H) (h6 : H ≤ 6) {W : Nat} (hW : M 1 9 = nI W) (w24 : W ≤ 24) : ∀ (k : Nat) (i : Nat), i + k = W →  Rn ro (d + 1) M_X0_wrongWaiting 2 [some (.ref 4), some (.int (nI i))] [] (mk M T) (fun r h => r = some (.int (ckV (lst (ckF (M 11) (M 13) H) i k) W - 1)) ∧ h = mk M T) := by
  intro k
  induction k with
  | zero =>
    intro i hi
    obtain rfl : i = W := by omega
    refine R_go 3 (pc' := 7) (L' := [some (.ref 4), some (.int (nI i))]) (st' := [.int (M 1 9), .int (nI i)]) (h' := mk M T) (fun _ => rfl) ?_
    refine R_top (y := nI i) (hW) ?_
    refine R_if 1 (c := (nI i) ≤ (nI i)) (t := 49) (f := 10) (L' := [some (.ref 4), some (.int (nI i))]) (st' := []) (h' := mk M T) (fun _ => rfl) (fun g1 => ?_) (fun g1 => ?_)
    · replace g1 : i ≤ i := (nI_leI (a := i) (b := i) (by omega) (by omega)).mp g1
      refine R_ret 2 (pcr := 50) (v := some (.int (-1))) (h' := mk M T) (fun _ => rfl) ?_
      exact ⟨by rw [ckV_n (show ¬ lst (ckF (M 11) (M 13) H) i 0 < i from Nat.lt_irrefl i)]; rfl, rfl⟩
    · replace g1 : ¬ i ≤ i := fun q => g1 ((nI_leI (a := i) (b := i) (by omega) (by omega)).mpr q)
      omega
  | succ k ih =>
    intro i hi
    refine R_go 3 (pc' := 7) (L' := [some (.ref 4), some (.int (nI i))]) (st' := [.int (M 1 9), .int (nI i)]) (h' := mk M T) (fun _ => rfl) ?_
    refine R_top (y := nI W) (hW) ?_
    refine R_if 1 (c := (nI W) ≤ (nI i)) (t := 49) (f := 10) (L' := [some (.ref 4), some (.int (nI i))]) (st' := []) (h' := mk M T) (fun _ => rfl) (fun g1 => ?_) (fun g1 => ?_)
    · replace g1 : W ≤ i := (nI_leI (a := W) (b := i) (by omega) (by omega)).mp g1
      omega
    · replace g1 : ¬ W ≤ i := fun q => g1 ((nI_leI (a := W) (b := i) (by omega) (by omega)).mpr q)
      refine R_if 5 (c := 24 ≤ (nI i)) (t := 49) (f := 19) (L' := [some (.ref 4), some (.int (nI i))]) (st' := []) (h' := mk M T) (fun _ => rfl) (fun g2 => ?_) (fun g2 => ?_)
      · replace g2 : 24 ≤ i := (nI_leI (a := 24) (b := i) (by omega) (by omega)).mp g2
        omega
      · replace g2 : ¬ 24 ≤ i := fun q => g2 ((nI_leI (a := 24) (b := i) (by omega) (by omega)).mpr q)
        refine R_go 2 (pc' := 21) (L' := [some (.ref 4), some (.int (nI i))]) (st' := [.int (nI i), .ref 4]) (h' := mk M T) (fun _ => rfl) ?_
        refine R_call2 (i := .invokevirtual 104) (kd := 0) (y := M_X0_hasHeir) (as := [.ref 4, .int (nI i)]) (r := []) (L0 := [some (.ref 4), some (.int (nI i))]) (v1 := some (.int 1)) (v2 := some (.int 0)) (h1' := mk M T) (h2' := mk M T) (pc' := 24) (st1 := [.int 1]) (st2 := [.int 0]) rfl rfl rfl rfl rfl rfl (c_hasHeir2 hH h6 (by omega)) (fun g3 => ?_) (fun g3 => ?_)
        · refine R_go 3 (pc' := 29) (L' := [some (.ref 4), some (.int (nI i))]) (st' := [.int (nI i), .ref 4]) (h' := mk M T) (fun _ => rfl) ?_
          refine R_callD (i := .invokevirtual 108) (kd := 0) (y := M_X0_purse) (as := [.ref 4, .int (nI i)]) (r := []) (L0 := [some (.ref 4), some (.int (nI i))]) (v := some (.int (M 11 i))) (h' := mk M T) (pc' := 32) (st' := [.int (M 11 i)]) rfl rfl rfl rfl rfl rfl (c_purse (n := i) (by omega)) ?_
          refine R_go 3 (pc' := 37) (L' := [some (.ref 4), some (.int (nI i))]) (st' := [.int (nI i), .ref 16, .int (M 11 i)]) (h' := mk M T) (fun _ => rfl) ?_
          refine R_iald (c := 13) (n := 24) (j := i) rfl rfl (by omega) (by decide) ?_
          refine R_if 1 (c := (M 11 i) = (M 13 i)) (t := 43) (f := 41) (L' := [some (.ref 4), some (.int (nI i))]) (st' := []) (h' := mk M T) (fun _ => rfl) (fun g4 => ?_) (fun g4 => ?_)
          · refine R_go 1 (pc' := 46) (L' := [some (.ref 4), some (.int ((nI i) + 1))]) (st' := []) (h' := mk M T) (fun _ => rfl) ?_
            rw [nI_1]
            refine R_go 1 (pc' := 2) (L' := [some (.ref 4), some (.int (nI (i + 1)))]) (st' := []) (h' := mk M T) (fun _ => rfl) ?_
            rw [lst_f (ckF_f ⟨by omega, g4⟩)]
            exact ih (i + 1) (by omega)
          · refine R_ret 2 (pcr := 42) (v := some (.int (nI i))) (h' := mk M T) (fun _ => rfl) ?_
            rw [lst_t (ckF_t (fun q => g4 q.2))]
            exact ⟨by rw [ckV_p (show i < W by omega), ← nI_1]; congr 2; grind, rfl⟩
        · refine R_ret 3 (pcr := 42) (v := some (.int (nI i))) (h' := mk M T) (fun _ => rfl) ?_
          rw [lst_t (ckF_t (fun q => by omega))]
          exact ⟨by rw [ckV_p (show i < W by omega), ← nI_1]; congr 2; grind, rfl⟩
set_option maxRecDepth 100000 in
set_option maxHeartbeats 4000000 in
theorem c_wrong {ro : xRO} {d : Nat} {M : xM} {T : Nat} {H : Nat} (hH : M 1 7 = nI H) (h6 : H ≤ 6) {W : Nat} (hW : M 1 9 = nI W) (w24 : W ≤ 24) : Rn ro (d + 1) M_X0_wrongWaiting 0 [some (.ref 4), none] [] (mk M T) (fun r h => r = some (.int (ckV (lst (ckF (M 11) (M 13) H) 0 W) W - 1)) ∧ h = mk M T) := by
  refine R_go 2 (pc' := 2) (L' := [some (.ref 4), some (.int 0)]) (st' := []) (h' := mk M T) (fun _ => rfl) ?_
  exact lp_wrong hH h6 hW w24 W 0 (Nat.zero_add W)
set_option maxRecDepth 100000 in
set_option maxHeartbeats 4000000 in
theorem x_check {ro : xRO} {d : Nat} {M : xM} {T : Nat} {H : Nat} (hH : M 1 7 = nI H) (h6 : H ≤ 6) {W : Nat} (hW : M 1 9 = nI W) (w24 : W ≤ 24) : Rn ro (d + 90) M_X7_check 0 [some (.ref 3), none] [] (mk M T) (fun r h => r = some (.int (ckV (lst (ckF (M 11) (M 13) H) 0 W) W)) ∧ h = mk (up M 1 9 0) T) := by
  refine R_go 2 (pc' := 4) (L' := [some (.ref 3), none]) (st' := [.ref 4]) (h' := mk M T) (fun _ => rfl) ?_
  refine R_callD (i := .invokevirtual 291) (kd := 0) (y := M_X0_wrongWaiting) (as := [.ref 4]) (r := []) (L0 := [some (.ref 4), none]) (v := some (.int (ckV (lst (ckF (M 11) (M 13) H) 0 W) W - 1))) (h' := mk M T) (pc' := 7) (st' := [.int (ckV (lst (ckF (M 11) (M 13) H) 0 W) W - 1)]) rfl rfl rfl rfl rfl rfl (c_wrong hH h6 hW w24) ?_
  refine R_ret 9 (pcr := 19) (v := some (.int ((ckV (lst (ckF (M 11) (M 13) H) 0 W) W - 1) + 1))) (h' := mk (up M 1 9 0) T) (fun _ => rfl) ?_
  exact ⟨by congr 2; grind, rfl⟩
set_option maxRecDepth 100000 in
set_option maxHeartbeats 4000000 in
theorem lp_check {ro : xRO} {d : Nat} {M : xM} {T : Nat}  {H : Nat} (hH : M 62 7 = nI H) (h6 : H ≤ 6) {W : Nat} (w24 : W ≤ 24) : ∀ (k : Nat) (i : Nat), i + k = W →  Rn ro (d + 90) M_X8_check 18 [some (.ref 64), some (.int (nI W)), some (.int (nI i))] [] (mk M T) (fun r h => r = some (.int (ckV (lst (ckF (fun i => M 62 (66 + i)) (fun i => M 62 (132 + i)) H) i k) W)) ∧ h = mk M T) := by
  intro k
  induction k with
  | zero =>
    intro i hi
    obtain rfl : i = W := by omega
    refine R_if 3 (c := (nI i) ≤ (nI i)) (t := 63) (f := 23) (L' := [some (.ref 64), some (.int (nI i)), some (.int (nI i))]) (st' := []) (h' := mk M T) (fun _ => rfl) (fun g1 => ?_) (fun g1 => ?_)
    · replace g1 : i ≤ i := (nI_leI (a := i) (b := i) (by omega) (by omega)).mp g1
      refine R_ret 2 (pcr := 64) (v := some (.int 0)) (h' := mk M T) (fun _ => rfl) ?_
      exact ⟨by rw [ckV_n (show ¬ lst (ckF (fun i => M 62 (66 + i)) (fun i => M 62 (132 + i)) H) i 0 < i from Nat.lt_irrefl i)], rfl⟩
    · replace g1 : ¬ i ≤ i := fun q => g1 ((nI_leI (a := i) (b := i) (by omega) (by omega)).mpr q)
      omega
  | succ k ih =>
    intro i hi
    refine R_if 3 (c := (nI W) ≤ (nI i)) (t := 63) (f := 23) (L' := [some (.ref 64), some (.int (nI W)), some (.int (nI i))]) (st' := []) (h' := mk M T) (fun _ => rfl) (fun g1 => ?_) (fun g1 => ?_)
    · replace g1 : W ≤ i := (nI_leI (a := W) (b := i) (by omega) (by omega)).mp g1
      omega
    · replace g1 : ¬ W ≤ i := fun q => g1 ((nI_leI (a := W) (b := i) (by omega) (by omega)).mpr q)
      refine R_go 2 (pc' := 25) (L' := [some (.ref 64), some (.int (nI W)), some (.int (nI i))]) (st' := [.int (nI i), .ref 64]) (h' := mk M T) (fun _ => rfl) ?_
      refine R_call2 (i := .invokevirtual 88) (kd := 0) (y := M_X8_isHeir) (as := [.ref 64, .int (nI i)]) (r := []) (L0 := [some (.ref 64), some (.int (nI i))]) (v1 := some (.int 1)) (v2 := some (.int 0)) (h1' := mk M T) (h2' := mk M T) (pc' := 28) (st1 := [.int 1]) (st2 := [.int 0]) rfl rfl rfl rfl rfl rfl (m_isHeir2 hH h6 (by omega)) (fun g2 => ?_) (fun g2 => ?_)
      · refine R_go 6 (pc' := 40) (L' := [some (.ref 64), some (.int (nI W)), some (.int (nI i))]) (st' := [.int (132 + nI i), .ref 65]) (h' := mk M T) (fun _ => rfl) ?_
        refine R_top (nI_add 132 i) ?_
        refine R_iald (c := 62) (n := 398) (j := 132 + i) rfl rfl (by omega) (by decide) ?_
        refine R_go 5 (pc' := 49) (L' := [some (.ref 64), some (.int (nI W)), some (.int (nI i))]) (st' := [.int (66 + nI i), .ref 65, .int (M 62 (132 + i))]) (h' := mk M T) (fun _ => rfl) ?_
        refine R_top (nI_add 66 i) ?_
        refine R_iald (c := 62) (n := 398) (j := 66 + i) rfl rfl (by omega) (by decide) ?_
        refine R_if 1 (c := (M 62 (132 + i)) = (M 62 (66 + i))) (t := 57) (f := 53) (L' := [some (.ref 64), some (.int (nI W)), some (.int (nI i))]) (st' := []) (h' := mk M T) (fun _ => rfl) (fun g3 => ?_) (fun g3 => ?_)
        · refine R_go 1 (pc' := 60) (L' := [some (.ref 64), some (.int (nI W)), some (.int ((nI i) + 1))]) (st' := []) (h' := mk M T) (fun _ => rfl) ?_
          rw [nI_1]
          refine R_go 1 (pc' := 18) (L' := [some (.ref 64), some (.int (nI W)), some (.int (nI (i + 1)))]) (st' := []) (h' := mk M T) (fun _ => rfl) ?_
          rw [lst_f (ckF_f ⟨by omega, g3.symm⟩)]
          exact ih (i + 1) (by omega)
        · refine R_go 3 (pc' := 56) (L' := [some (.ref 64), some (.int (nI W)), some (.int (nI i))]) (st' := [.int (1 + nI i)]) (h' := mk M T) (fun _ => rfl) ?_
          refine R_top (nI_add 1 i) ?_
          refine R_ret 1 (pcr := 56) (v := some (.int (nI (1 + i)))) (h' := mk M T) (fun _ => rfl) ?_
          rw [lst_t (ckF_t (fun q => g3 q.2.symm))]
          exact ⟨by rw [ckV_p (show i < W by omega), Nat.add_comm i 1], rfl⟩
      · refine R_go 4 (pc' := 56) (L' := [some (.ref 64), some (.int (nI W)), some (.int (nI i))]) (st' := [.int (1 + nI i)]) (h' := mk M T) (fun _ => rfl) ?_
        refine R_top (nI_add 1 i) ?_
        refine R_ret 1 (pcr := 56) (v := some (.int (nI (1 + i)))) (h' := mk M T) (fun _ => rfl) ?_
        rw [lst_t (ckF_t (fun q => by omega))]
        exact ⟨by rw [ckV_p (show i < W by omega), Nat.add_comm i 1], rfl⟩
set_option maxRecDepth 100000 in
set_option maxHeartbeats 4000000 in
theorem m_check {ro : xRO} {d : Nat} {M : xM} {T : Nat} {H : Nat} (hH : M 62 7 = nI H) (h6 : H ≤ 6) {W : Nat} (w24 : W ≤ 24) (hW : M 62 9 = nI W) : Rn ro (d + 90) M_X8_check 0 [some (.ref 64), none, none] [] (mk M T) (fun r h => r = some (.int (ckV (lst (ckF (fun i => M 62 (66 + i)) (fun i => M 62 (132 + i)) H) 0 W) W)) ∧ h = mk (up M 62 9 0) T) := by
  refine R_go 4 (pc' := 7) (L' := [some (.ref 64), none, none]) (st' := [.int (M 62 9)]) (h' := mk M T) (fun _ => rfl) ?_
  refine R_top (y := nI W) (hW) ?_
  refine R_go 8 (pc' := 18) (L' := [some (.ref 64), some (.int (nI W)), some (.int 0)]) (st' := []) (h' := mk (up M 62 9 0) T) (fun _ => rfl) ?_
  have w := lp_check (ro := ro) (d := d) (M := up M 62 9 0) (T := T) (H := H) (W := W) ((up_nj (by omega) 62).trans hH) h6 w24 W 0 (Nat.zero_add W)
  rw [show (fun i => up M 62 9 0 62 (66 + i)) = fun i => M 62 (66 + i) from funext fun i => up_nj (by omega) 62, show (fun i => up M 62 9 0 62 (132 + i)) = fun i => M 62 (132 + i) from funext fun i => up_nj (by omega) 62] at w
  exact w
theorem lst_congr {f g : Nat → Bool} : ∀ (k c : Nat), (∀ i, c ≤ i → i < c + k → f i = g i) → lst f c k = lst g c k := by
  intro k
  induction k with
  | zero => intro c _; rfl
  | succ k ih =>
    intro c h
    unfold lst
    rw [h c (by omega) (by omega), ih (c + 1) (fun i a b => h i (by omega) (by omega))]
set_option maxHeartbeats 4000000 in
theorem op_check {ro : xRO} {M : xM} {T : Nat} (h : Rel M)  : OpOK ro M_X7_check M_X8_check [some (.ref 3), none] [some (.ref 64), none, none] M T := by
  obtain ⟨P, H, h8, h6, pm, hm, px, hx, a, b1, b2, b3, b4, c2, c3, c4, c5⟩ := rel_all h
  obtain ⟨W, w24, wm⟩ := c2.2.1
  have e : lst (ckF (M 11) (M 13) H) 0 W = lst (ckF (fun i => M 62 (66 + i)) (fun i => M 62 (132 + i)) H) 0 W := by
    refine lst_congr W 0 (fun i _ hi => ?_)
    unfold ckF
    by_cases q : i < H
    · have r1 := b2 i (by omega)
      have r2 := b4 i (by omega)
      rw [show M 11 i = M 62 (66 + i) from r1, show M 13 i = M 62 (132 + i) from r2]
    · rw [decide_eq_false (fun w => q w.1), decide_eq_false (fun w => q w.1)]
  refine OpOK.of (fun d => x_check hx h6 (a.2.1.trans wm) w24) (fun d => m_check (M := up M 1 9 0) hm h6 w24 wm) ?_ ?_
  · rw [e]
    rfl
  · have z0 : iN 0 24 := ⟨0, by omega, rfl⟩
    refine h.now ?_ ?_ ?_ ?_ ?_ ?_ ?_ P H ?_ ?_ ?_ ?_ ?_
    · intro c x y; simp only [up_ne x, up_ne (show c ≠ 1 from fun q => y (by omega)), up_ne (show c ≠ 11 from fun q => y (by omega)), up_ne (show c ≠ 12 from fun q => y (by omega)), up_ne (show c ≠ 13 from fun q => y (by omega))]
    · intro j hj; simp only [up_rd]; grind
    · unfold hsA; simp only [up_rd]; grind
    · intro p j hp hj; have := b1 p j hp hj; simp only [up_rd]; grind
    · intro i hi; have := b2 i hi; have := c5 i hi; simp only [up_rd]; grind
    · intro i hi; have := b3 i hi; simp only [up_rd]; grind
    · intro i hi; have := b4 i hi; simp only [up_rd]; grind
    · unfold rwA; simp only [up_rd]; grind
    · unfold rwB; simp only [up_rd]; grind
    · intro p hp; have := c3 p hp; simp only [up_rd]; grind
    · intro p hp; obtain ⟨he, e1, e2⟩ := c4 p (by omega); exact ⟨he, by omega, by simp only [up_rd]; grind⟩
    · intro i hi; have := c5 i hi; have : iN 0 99999 := ⟨0, by omega, rfl⟩; simp only [up_rd]; grind
