/-! SHEETS: judge, fits -/
set_option maxRecDepth 100000 in
set_option maxHeartbeats 4000000 in
theorem c_numberAt {ro : xRO} {d : Nat} {M : xM} {T : Nat} {e : Nat} (he : e < 4) {z : Nat} (hz : M (52 + 2 * e) 2 = nI z) (z24 : z ≤ 24) {n : Nat} (hn : n < z) : Rn ro d M_X4_numberAt 0 [some (.ref (52 + 2 * e + 3)), some (.int (nI n))] [] (mk M T) (fun r h => r = some (.int (M (53 + 2 * e) n)) ∧ h = mk M T) := by
  refine R_if 2 (c := (nI n) < 0) (t := 30) (f := 4) (L' := [some (.ref (52 + 2 * e + 3)), some (.int (nI n))]) (st' := []) (h' := mk M T) (fun _ => rfl) (fun h1 => ?_) (fun h1 => ?_)
  · replace h1 : n < 0 := (nI_ltI (a := n) (b := 0) (by omega) (by omega)).mp h1
    omega
  · replace h1 : ¬ n < 0 := fun q => h1 ((nI_ltI (a := n) (b := 0) (by omega) (by omega)).mpr q)
    refine R_go 2 (pc' := 6) (L' := [some (.ref (52 + 2 * e + 3)), some (.int (nI n))]) (st' := [.ref (52 + 2 * e + 3), .int (nI n)]) (h' := mk M T) (fun _ => rfl) ?_
    refine R_getI (i := 15) (j := 2) (c := 52 + 2 * e) (sh_sheet (by omega)) rfl rfl rfl ?_
    refine R_top (y := nI z) (hz) ?_
    refine R_if 1 (c := (nI z) ≤ (nI n)) (t := 30) (f := 12) (L' := [some (.ref (52 + 2 * e + 3)), some (.int (nI n))]) (st' := []) (h' := mk M T) (fun _ => rfl) (fun h2 => ?_) (fun h2 => ?_)
    · replace h2 : z ≤ n := (nI_leI (a := z) (b := n) (by omega) (by omega)).mp h2
      omega
    · replace h2 : ¬ z ≤ n := fun q => h2 ((nI_leI (a := z) (b := n) (by omega) (by omega)).mpr q)
      refine R_go 2 (pc' := 14) (L' := [some (.ref (52 + 2 * e + 3)), some (.int (nI n))]) (st' := [.ref (52 + 2 * e + 3), .int (nI n)]) (h' := mk M T) (fun _ => rfl) ?_
      refine R_getR (i := 9) (j := 0) (c := 52 + 2 * e) (sh_sheet (by omega)) rfl rfl rfl ?_
      refine R_alen (c := 53 + 2 * e) (sh_nums (by omega)) rfl ?_
      refine R_if 1 (c := 24 ≤ (nI n)) (t := 30) (f := 21) (L' := [some (.ref (52 + 2 * e + 3)), some (.int (nI n))]) (st' := []) (h' := mk M T) (fun _ => rfl) (fun h3 => ?_) (fun h3 => ?_)
      · replace h3 : 24 ≤ n := (nI_leI (a := 24) (b := n) (by omega) (by omega)).mp h3
        omega
      · replace h3 : ¬ 24 ≤ n := fun q => h3 ((nI_leI (a := 24) (b := n) (by omega) (by omega)).mpr q)
        refine R_go 1 (pc' := 22) (L' := [some (.ref (52 + 2 * e + 3)), some (.int (nI n))]) (st' := [.ref (52 + 2 * e + 3)]) (h' := mk M T) (fun _ => rfl) ?_
        refine R_getR (i := 9) (j := 0) (c := 52 + 2 * e) (sh_sheet (by omega)) rfl rfl rfl ?_
        refine R_go 1 (pc' := 26) (L' := [some (.ref (52 + 2 * e + 3)), some (.int (nI n))]) (st' := [.int (nI n), .ref (53 + 2 * e + 3)]) (h' := mk M T) (fun _ => rfl) ?_
        refine R_iald (c := 53 + 2 * e) (n := 24) (j := n) (sh_nums (by omega)) rfl (by omega) (by decide) ?_
        refine R_ret 2 (pcr := 31) (v := some (.int (M (53 + 2 * e) n))) (h' := mk M T) (fun _ => rfl) ?_
        exact ⟨rfl, rfl⟩
theorem c_paneAt2 {ro : xRO} {d : Nat} {M : xM} {T : Nat} {P : Nat} (hP : M 1 6 = nI P) (h8 : P ≤ 8) {i : Nat} (hi : i < 2 ^ 30) : Rn ro d M_X0_paneAt 0 [some (.ref 4), some (.int (nI i))] [] (mk M T) (fun r h => (i < P ∧ r = some (.ref (3 + i + 3)) ∧ h = mk M T) ∨ (¬ i < P ∧ r = some .null ∧ h = mk M T)) := by
  by_cases hn : i < P
  · exact (c_paneAt_in hP h8 hn).imp (fun _ _ q => Or.inl ⟨hn, q.1, q.2⟩)
  · exact (c_paneAt_out hP h8 (fun q => hn ((nI_ltI (by omega) (by omega)).mp q.2))).imp (fun _ _ q => Or.inr ⟨hn, q.1, q.2⟩)
/-- where a sheet is wrong -/
def rgF (kd md fc cl : Nat → Nat) (cs : Nat → Int32) (P t cold lamp : Nat) : Nat → Bool := fun i => !decide (i < P ∧ cs i = nI (lftN (kd i) (md i) (fc i) (cl i) t cold lamp))
theorem rgF_t {kd md fc cl : Nat → Nat} {cs : Nat → Int32} {P t cold lamp i : Nat} (h : ¬ (i < P ∧ cs i = nI (lftN (kd i) (md i) (fc i) (cl i) t cold lamp))) : rgF kd md fc cl cs P t cold lamp i = true := by
  unfold rgF
  rw [decide_eq_false h]
  rfl
theorem rgF_f {kd md fc cl : Nat → Nat} {cs : Nat → Int32} {P t cold lamp i : Nat} (h : i < P ∧ cs i = nI (lftN (kd i) (md i) (fc i) (cl i) t cold lamp)) : ¬ rgF kd md fc cl cs P t cold lamp i = true := by
  unfold rgF
  rw [decide_eq_true h]
  decide
theorem lst_t {f : Nat → Bool} {i k : Nat} (h : f i = true) : lst f i (k + 1) = i := by rw [lst, if_pos h]
theorem lst_f {f : Nat → Bool} {i k : Nat} (h : ¬ f i = true) : lst f i (k + 1) = lst f (i + 1) k := by rw [lst, if_neg h]
theorem cnt_t {f : Nat → Bool} {i k : Nat} (h : f i = true) : cnt f i (k + 1) = 1 + cnt f (i + 1) k := by rw [cnt, if_pos h]
theorem cnt_f {f : Nat → Bool} {i k : Nat} (h : ¬ f i = true) : cnt f i (k + 1) = cnt f (i + 1) k := by rw [cnt, if_neg h, Nat.zero_add]
set_option maxRecDepth 100000 in
set_option maxHeartbeats 4000000 in
theorem lp_rightOnes {ro : xRO} {d : Nat} {M : xM} {T : Nat}  {e : Nat} (he : e < 4) {z : Nat} (hz : M (52 + 2 * e) 2 = nI z) (z24 : z ≤ 24) {P : Nat} (hP : M 1 6 = nI P) (h8 : P ≤ 8) {lamp : Nat} (hl : M 1 13 = nI lamp) (l1 : lamp ≤ 1) {kd md fc cl : Nat → Nat} {cs : Nat → Int32} (hpn : ∀ i, i < 8 → paneF M (3 + i) (kd i) (md i) (fc i) (cl i)) (hq : ∀ i v, i < 24 → v < 100 → (M (53 + 2 * e) i = nI v ↔ cs i = nI v)) {t cold : Nat} (ht : t < 1000) (c40 : cold ≤ 40) : ∀ (k : Nat) (i : Nat) (w : Option Value), i + k = z →  Rn ro (d + 2) M_X0_rightOnes 3 [some (.ref 4), some (.ref (52 + 2 * e + 3)), some (.int (nI t)), some (.int (nI cold)), some (.int (nI i)), w] [] (mk M T) (fun r h => r = some (.int (nI (lst (rgF kd md fc cl cs P t cold lamp) i k))) ∧ h = mk M T) := by
  intro k
  induction k with
  | zero =>
    intro i w hi
    obtain rfl : i = z := by omega
    refine R_go 2 (pc' := 6) (L' := [some (.ref 4), some (.ref (52 + 2 * e + 3)), some (.int (nI t)), some (.int (nI cold)), some (.int (nI i)), w]) (st' := [.ref (52 + 2 * e + 3), .int (nI i)]) (h' := mk M T) (fun _ => rfl) ?_
    refine R_getI (i := 112) (j := 2) (c := 52 + 2 * e) (sh_sheet (by omega)) rfl rfl rfl ?_
    refine R_top (y := nI i) (hz) ?_
    refine R_if 1 (c := (nI i) ≤ (nI i)) (t := 54) (f := 12) (L' := [some (.ref 4), some (.ref (52 + 2 * e + 3)), some (.int (nI t)), some (.int (nI cold)), some (.int (nI i)), w]) (st' := []) (h' := mk M T) (fun _ => rfl) (fun g1 => ?_) (fun g1 => ?_)
    · replace g1 : i ≤ i := (nI_leI (a := i) (b := i) (by omega) (by omega)).mp g1
      refine R_go 1 (pc' := 55) (L' := [some (.ref 4), some (.ref (52 + 2 * e + 3)), some (.int (nI t)), some (.int (nI cold)), some (.int (nI i)), w]) (st' := [.ref (52 + 2 * e + 3)]) (h' := mk M T) (fun _ => rfl) ?_
      refine R_getI (i := 112) (j := 2) (c := 52 + 2 * e) (sh_sheet (by omega)) rfl rfl rfl ?_
      refine R_top (y := nI i) (hz) ?_
      refine R_ret 1 (pcr := 58) (v := some (.int (nI i))) (h' := mk M T) (fun _ => rfl) ?_
      exact ⟨rfl, rfl⟩
    · replace g1 : ¬ i ≤ i := fun q => g1 ((nI_leI (a := i) (b := i) (by omega) (by omega)).mpr q)
      omega
  | succ k ih =>
    intro i w hi
    have q9 : ∀ j, j < 8 → lftN (kd j) (md j) (fc j) (cl j) t cold lamp < 100 := fun j hj => by
      obtain ⟨-, -, -, -, z1, z2, z3, z4⟩ := hpn j hj
      have := lftN_le (kd := kd j) (fc := fc j) (lamp := lamp) (hour := t) z2 z4 c40
      omega
    have q8 : i < P → lftN (kd i) (md i) (fc i) (cl i) t cold lamp < 100 := fun q => q9 i (by omega)
    refine R_go 2 (pc' := 6) (L' := [some (.ref 4), some (.ref (52 + 2 * e + 3)), some (.int (nI t)), some (.int (nI cold)), some (.int (nI i)), w]) (st' := [.ref (52 + 2 * e + 3), .int (nI i)]) (h' := mk M T) (fun _ => rfl) ?_
    refine R_getI (i := 112) (j := 2) (c := 52 + 2 * e) (sh_sheet (by omega)) rfl rfl rfl ?_
    refine R_top (y := nI z) (hz) ?_
    refine R_if 1 (c := (nI z) ≤ (nI i)) (t := 54) (f := 12) (L' := [some (.ref 4), some (.ref (52 + 2 * e + 3)), some (.int (nI t)), some (.int (nI cold)), some (.int (nI i)), w]) (st' := []) (h' := mk M T) (fun _ => rfl) (fun g1 => ?_) (fun g1 => ?_)
    · replace g1 : z ≤ i := (nI_leI (a := z) (b := i) (by omega) (by omega)).mp g1
      omega
    · replace g1 : ¬ z ≤ i := fun q => g1 ((nI_leI (a := z) (b := i) (by omega) (by omega)).mpr q)
      refine R_go 2 (pc' := 15) (L' := [some (.ref 4), some (.ref (52 + 2 * e + 3)), some (.int (nI t)), some (.int (nI cold)), some (.int (nI i)), w]) (st' := [.int (nI i), .ref 4]) (h' := mk M T) (fun _ => rfl) ?_
      refine R_call2 (i := .invokevirtual 82) (kd := 0) (y := M_X0_paneAt) (as := [.ref 4, .int (nI i)]) (r := []) (L0 := [some (.ref 4), some (.int (nI i))]) (v1 := some (.ref (3 + i + 3))) (v2 := some (.null)) (h1' := mk M T) (h2' := mk M T) (pc' := 18) (st1 := [.ref (3 + i + 3)]) (st2 := [.null]) rfl rfl rfl rfl rfl rfl (c_paneAt2 (i := i) hP h8 (by omega)) (fun g2 => ?_) (fun g2 => ?_)
      · refine R_go 8 (pc' := 33) (L' := [some (.ref 4), some (.ref (52 + 2 * e + 3)), some (.int (nI t)), some (.int (nI cold)), some (.int (nI i)), some (.ref (3 + i + 3))]) (st' := [.int (M 1 13), .int (nI cold), .int (nI t), .ref (3 + i + 3)]) (h' := mk M T) (fun _ => rfl) ?_
        refine R_top (y := nI lamp) (hl) ?_
        refine R_callD (i := .invokevirtual 115) (kd := 0) (y := M_X1_leftAt) (as := [.ref (3 + i + 3), .int (nI t), .int (nI cold), .int (nI lamp)]) (r := []) (L0 := [some (.ref (3 + i + 3)), some (.int (nI t)), some (.int (nI cold)), some (.int (nI lamp))]) (v := some (.int (nI (lftN (kd i) (md i) (fc i) (cl i) t cold lamp)))) (h' := mk M T) (pc' := 36) (st' := [.int (nI (lftN (kd i) (md i) (fc i) (cl i) t cold lamp))]) rfl rfl rfl rfl (xPre_c (sh_pane (by omega)) rfl rfl rfl rfl) rfl (c_leftAt (sh_pane (by omega)) (hpn i (by omega)) (by omega) (by omega) l1) ?_
        refine R_go 2 (pc' := 39) (L' := [some (.ref 4), some (.ref (52 + 2 * e + 3)), some (.int (nI t)), some (.int (nI cold)), some (.int (nI i)), some (.ref (3 + i + 3))]) (st' := [.int (nI i), .ref (52 + 2 * e + 3), .int (nI (lftN (kd i) (md i) (fc i) (cl i) t cold lamp))]) (h' := mk M T) (fun _ => rfl) ?_
        refine R_callD (i := .invokevirtual 118) (kd := 0) (y := M_X4_numberAt) (as := [.ref (52 + 2 * e + 3), .int (nI i)]) (r := [.int (nI (lftN (kd i) (md i) (fc i) (cl i) t cold lamp))]) (L0 := [some (.ref (52 + 2 * e + 3)), some (.int (nI i))]) (v := some (.int (M (53 + 2 * e) i))) (h' := mk M T) (pc' := 42) (st' := [.int (M (53 + 2 * e) i), .int (nI (lftN (kd i) (md i) (fc i) (cl i) t cold lamp))]) rfl rfl rfl rfl (xPre_c (sh_sheet (by omega)) rfl rfl rfl rfl) rfl (c_numberAt he hz z24 (by omega)) ?_
        refine R_if 1 (c := (nI (lftN (kd i) (md i) (fc i) (cl i) t cold lamp)) = (M (53 + 2 * e) i)) (t := 48) (f := 45) (L' := [some (.ref 4), some (.ref (52 + 2 * e + 3)), some (.int (nI t)), some (.int (nI cold)), some (.int (nI i)), some (.ref (3 + i + 3))]) (st' := []) (h' := mk M T) (fun _ => rfl) (fun g3 => ?_) (fun g3 => ?_)
        · refine R_go 1 (pc' := 51) (L' := [some (.ref 4), some (.ref (52 + 2 * e + 3)), some (.int (nI t)), some (.int (nI cold)), some (.int ((nI i) + 1)), some (.ref (3 + i + 3))]) (st' := []) (h' := mk M T) (fun _ => rfl) ?_
          rw [nI_1]
          refine R_go 1 (pc' := 3) (L' := [some (.ref 4), some (.ref (52 + 2 * e + 3)), some (.int (nI t)), some (.int (nI cold)), some (.int (nI (i + 1))), some (.ref (3 + i + 3))]) (st' := []) (h' := mk M T) (fun _ => rfl) ?_
          have e0 := lst_f (k := k) (rgF_f (t := t) (cold := cold) (lamp := lamp) (kd := kd) (md := md) (fc := fc) (cl := cl) (cs := cs) (P := P) (i := i) ⟨by omega, (hq i _ (by omega) (by omega)).mp g3.symm⟩)
          rw [e0]
          exact ih (i + 1) _ (by omega)
        · refine R_ret 2 (pcr := 47) (v := some (.int (nI i))) (h' := mk M T) (fun _ => rfl) ?_
          rw [lst_t (rgF_t (fun q => g3 ((hq i _ (by omega) (by omega)).mpr q.2).symm))]
          exact ⟨rfl, rfl⟩
      · refine R_ret 5 (pcr := 47) (v := some (.int (nI i))) (h' := mk M T) (fun _ => rfl) ?_
        rw [lst_t (rgF_t (fun q => g2 q.1))]
        exact ⟨rfl, rfl⟩
set_option maxRecDepth 100000 in
set_option maxHeartbeats 4000000 in
theorem c_rightOnes {ro : xRO} {d : Nat} {M : xM} {T : Nat} {e : Nat} (he : e < 4) {z : Nat} (hz : M (52 + 2 * e) 2 = nI z) (z24 : z ≤ 24) {P : Nat} (hP : M 1 6 = nI P) (h8 : P ≤ 8) {lamp : Nat} (hl : M 1 13 = nI lamp) (l1 : lamp ≤ 1) {kd md fc cl : Nat → Nat} {cs : Nat → Int32} (hpn : ∀ i, i < 8 → paneF M (3 + i) (kd i) (md i) (fc i) (cl i)) (hq : ∀ i v, i < 24 → v < 100 → (M (53 + 2 * e) i = nI v ↔ cs i = nI v)) {t cold : Nat} (ht : t < 1000) (c40 : cold ≤ 40) : Rn ro (d + 2) M_X0_rightOnes 0 [some (.ref 4), some (.ref (52 + 2 * e + 3)), some (.int (nI t)), some (.int (nI cold)), none, none] [] (mk M T) (fun r h => r = some (.int (nI (lst (rgF kd md fc cl cs P t cold lamp) 0 z))) ∧ h = mk M T) := by
  refine R_go 2 (pc' := 3) (L' := [some (.ref 4), some (.ref (52 + 2 * e + 3)), some (.int (nI t)), some (.int (nI cold)), some (.int 0), none]) (st' := []) (h' := mk M T) (fun _ => rfl) ?_
  exact lp_rightOnes he hz z24 hP h8 hl l1 hpn hq ht c40 z 0 none (Nat.zero_add z)
set_option maxRecDepth 100000 in
set_option maxHeartbeats 4000000 in
theorem lp_rightOf {ro : xRO} {d : Nat} {M : xM} {T : Nat}  {e : Nat} (he : e < 4) {z : Nat} (hz : M 66 e = nI z) (z24 : z ≤ 24) {P : Nat} (hP : M 62 6 = nI P) (h8 : P ≤ 8) {kd md fc cl : Nat → Nat} {cs : Nat → Int32} (hpn : ∀ i, i < 8 → rpF M i (kd i) (md i) (fc i) (cl i)) (hq : ∀ i, i < 24 → M 67 (24 * e + i) = cs i) {cold lamp : Nat} (hc : M 62 0 = nI cold) (hl : M 62 2 = nI lamp) (c40 : cold ≤ 40) (l1 : lamp ≤ 1) (h0 : M 61 7 = 0) {t : Nat} (ht : t < 1000) : ∀ (k : Nat) (i : Nat), i + k = z →  Rn ro (d + 3) M_X8_rightOf 2 [some (.ref 64), some (.int (nI e)), some (.int (nI t)), some (.int (nI i))] [] (mk M T) (fun r h => r = some (.int (nI (lst (rgF kd md fc cl cs P t cold lamp) i k))) ∧ h = mk M T) := by
  intro k
  induction k with
  | zero =>
    intro i hi
    obtain rfl : i = z := by omega
    refine R_go 4 (pc' := 8) (L' := [some (.ref 64), some (.int (nI e)), some (.int (nI t)), some (.int (nI i))]) (st' := [.int (nI e), .ref 69, .int (nI i)]) (h' := mk M T) (fun _ => rfl) ?_
    refine R_iald (c := 66) (n := 4) (j := e) rfl rfl (by omega) (by decide) ?_
    refine R_top (y := nI i) (hz) ?_
    refine R_if 1 (c := (nI i) ≤ (nI i)) (t := 49) (f := 12) (L' := [some (.ref 64), some (.int (nI e)), some (.int (nI t)), some (.int (nI i))]) (st' := []) (h' := mk M T) (fun _ => rfl) (fun g1 => ?_) (fun g1 => ?_)
    · replace g1 : i ≤ i := (nI_leI (a := i) (b := i) (by omega) (by omega)).mp g1
      refine R_ret 2 (pcr := 50) (v := some (.int (nI i))) (h' := mk M T) (fun _ => rfl) ?_
      exact ⟨rfl, rfl⟩
    · replace g1 : ¬ i ≤ i := fun q => g1 ((nI_leI (a := i) (b := i) (by omega) (by omega)).mpr q)
      omega
  | succ k ih =>
    intro i hi
    have q9 : ∀ j, j < 8 → lftN (kd j) (md j) (fc j) (cl j) t cold lamp < 100 := fun j hj => by
      obtain ⟨-, -, -, -, z1, z2, z3, z4⟩ := hpn j hj
      have := lftN_le (kd := kd j) (fc := fc j) (lamp := lamp) (hour := t) z2 z4 c40
      omega
    have q8 : i < P → lftN (kd i) (md i) (fc i) (cl i) t cold lamp < 100 := fun q => q9 i (by omega)
    refine R_go 4 (pc' := 8) (L' := [some (.ref 64), some (.int (nI e)), some (.int (nI t)), some (.int (nI i))]) (st' := [.int (nI e), .ref 69, .int (nI i)]) (h' := mk M T) (fun _ => rfl) ?_
    refine R_iald (c := 66) (n := 4) (j := e) rfl rfl (by omega) (by decide) ?_
    refine R_top (y := nI z) (hz) ?_
    refine R_if 1 (c := (nI z) ≤ (nI i)) (t := 49) (f := 12) (L' := [some (.ref 64), some (.int (nI e)), some (.int (nI t)), some (.int (nI i))]) (st' := []) (h' := mk M T) (fun _ => rfl) (fun g1 => ?_) (fun g1 => ?_)
    · replace g1 : z ≤ i := (nI_leI (a := z) (b := i) (by omega) (by omega)).mp g1
      omega
    · replace g1 : ¬ z ≤ i := fun q => g1 ((nI_leI (a := z) (b := i) (by omega) (by omega)).mpr q)
      refine R_go 5 (pc' := 20) (L' := [some (.ref 64), some (.int (nI e)), some (.int (nI t)), some (.int (nI i))]) (st' := [.int (M 62 6), .int (nI i)]) (h' := mk M T) (fun _ => rfl) ?_
      refine R_top (y := nI P) (hP) ?_
      refine R_if 1 (c := (nI P) ≤ (nI i)) (t := 49) (f := 23) (L' := [some (.ref 64), some (.int (nI e)), some (.int (nI t)), some (.int (nI i))]) (st' := []) (h' := mk M T) (fun _ => rfl) (fun g2 => ?_) (fun g2 => ?_)
      · replace g2 : P ≤ i := (nI_leI (a := P) (b := i) (by omega) (by omega)).mp g2
        refine R_ret 2 (pcr := 50) (v := some (.int (nI i))) (h' := mk M T) (fun _ => rfl) ?_
        rw [lst_t (rgF_t (fun q => by omega))]
        exact ⟨rfl, rfl⟩
      · replace g2 : ¬ P ≤ i := fun q => g2 ((nI_leI (a := P) (b := i) (by omega) (by omega)).mpr q)
        refine R_go 5 (pc' := 31) (L' := [some (.ref 64), some (.int (nI e)), some (.int (nI t)), some (.int (nI i))]) (st' := [.int (24 * nI e), .ref 70]) (h' := mk M T) (fun _ => rfl) ?_
        refine R_top (pk_mul 24 e) ?_
        refine R_go 2 (pc' := 33) (L' := [some (.ref 64), some (.int (nI e)), some (.int (nI t)), some (.int (nI i))]) (st' := [.int (nI (24 * e) + nI i), .ref 70]) (h' := mk M T) (fun _ => rfl) ?_
        refine R_top (nI_add (24 * e) i) ?_
        refine R_iald (c := 67) (n := 96) (j := (24 * e) + i) rfl rfl (by omega) (by decide) ?_
        refine R_go 3 (pc' := 37) (L' := [some (.ref 64), some (.int (nI e)), some (.int (nI t)), some (.int (nI i))]) (st' := [.int (nI t), .int (nI i), .ref 64, .int (M 67 ((24 * e) + i))]) (h' := mk M T) (fun _ => rfl) ?_
        refine R_callD (i := .invokevirtual 159) (kd := 0) (y := M_X8_leftOf) (as := [.ref 64, .int (nI i), .int (nI t)]) (r := [.int (M 67 ((24 * e) + i))]) (L0 := [some (.ref 64), some (.int (nI i)), some (.int (nI t)), none, none, none]) (v := some (.int (nI (lftN (kd i) (md i) (fc i) (cl i) t cold lamp)))) (h' := mk M T) (pc' := 40) (st' := [.int (nI (lftN (kd i) (md i) (fc i) (cl i) t cold lamp)), .int (M 67 ((24 * e) + i))]) rfl rfl rfl rfl rfl rfl (m_leftOf (p := i) (cold := cold) (by omega) (hpn i (by omega)) hc hl c40 l1 (by omega) (by rw [h0]; exact bit_0 (by omega))) ?_
        refine R_ifn 1 (c := (M 67 ((24 * e) + i)) = (nI (lftN (kd i) (md i) (fc i) (cl i) t cold lamp))) (t := 49) (f := 43) (L' := [some (.ref 64), some (.int (nI e)), some (.int (nI t)), some (.int (nI i))]) (st' := []) (h' := mk M T) (fun _ => rfl) (fun g3 => ?_) (fun g3 => ?_)
        · refine R_ret 2 (pcr := 50) (v := some (.int (nI i))) (h' := mk M T) (fun _ => rfl) ?_
          rw [lst_t (rgF_t (fun q => g3 ((hq i (by omega)).trans q.2)))]
          exact ⟨rfl, rfl⟩
        · refine R_go 1 (pc' := 46) (L' := [some (.ref 64), some (.int (nI e)), some (.int (nI t)), some (.int ((nI i) + 1))]) (st' := []) (h' := mk M T) (fun _ => rfl) ?_
          rw [nI_1]
          refine R_go 1 (pc' := 2) (L' := [some (.ref 64), some (.int (nI e)), some (.int (nI t)), some (.int (nI (i + 1)))]) (st' := []) (h' := mk M T) (fun _ => rfl) ?_
          rw [lst_f (k := k) (rgF_f (t := t) (cold := cold) (lamp := lamp) (kd := kd) (md := md) (fc := fc) (cl := cl) (cs := cs) (P := P) (i := i) ⟨by omega, (hq i (by omega)).symm.trans g3⟩)]
          exact ih (i + 1) (by omega)
set_option maxRecDepth 100000 in
set_option maxHeartbeats 4000000 in
theorem m_rightOf {ro : xRO} {d : Nat} {M : xM} {T : Nat} {e : Nat} (he : e < 4) {z : Nat} (hz : M 66 e = nI z) (z24 : z ≤ 24) {P : Nat} (hP : M 62 6 = nI P) (h8 : P ≤ 8) {kd md fc cl : Nat → Nat} {cs : Nat → Int32} (hpn : ∀ i, i < 8 → rpF M i (kd i) (md i) (fc i) (cl i)) (hq : ∀ i, i < 24 → M 67 (24 * e + i) = cs i) {cold lamp : Nat} (hc : M 62 0 = nI cold) (hl : M 62 2 = nI lamp) (c40 : cold ≤ 40) (l1 : lamp ≤ 1) (h0 : M 61 7 = 0) {t : Nat} (ht : t < 1000) : Rn ro (d + 3) M_X8_rightOf 0 [some (.ref 64), some (.int (nI e)), some (.int (nI t)), none] [] (mk M T) (fun r h => r = some (.int (nI (lst (rgF kd md fc cl cs P t cold lamp) 0 z))) ∧ h = mk M T) := by
  refine R_go 2 (pc' := 2) (L' := [some (.ref 64), some (.int (nI e)), some (.int (nI t)), some (.int 0)]) (st' := []) (h' := mk M T) (fun _ => rfl) ?_
  exact lp_rightOf he hz z24 hP h8 hpn hq hc hl c40 l1 h0 ht z 0 (Nat.zero_add z)
