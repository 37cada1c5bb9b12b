/-! THE CLASS: small methods -/
set_option maxRecDepth 100000 in
set_option maxHeartbeats 4000000 in
theorem c_within {ro : xRO} {d : Nat} {M : xM} {T : Nat} {v a b : Int32} : Rn ro d M_X7_within 0 [some (.int v), some (.int a), some (.int b)] [] (mk M T) (fun r h => ((a ≤ v ∧ v ≤ b) ∧ r = some (.int 1) ∧ h = mk M T) ∨ (¬ (a ≤ v ∧ v ≤ b) ∧ r = some (.int 0) ∧ h = mk M T)) := by
  refine R_if 3 (c := v < a) (t := 14) (f := 5) (L' := [some (.int v), some (.int a), some (.int b)]) (st' := []) (h' := mk M T) (fun _ => rfl) (fun h1 => ?_) (fun h1 => ?_)
  · refine R_ret 2 (pcr := 15) (v := some (.int 0)) (h' := mk M T) (fun _ => rfl) ?_
    exact Or.inr ⟨fun q => absurd q.1 (k2_nle h1), rfl, rfl⟩
  · refine R_if 3 (c := b < v) (t := 14) (f := 10) (L' := [some (.int v), some (.int a), some (.int b)]) (st' := []) (h' := mk M T) (fun _ => rfl) (fun h2 => ?_) (fun h2 => ?_)
    · refine R_ret 2 (pcr := 15) (v := some (.int 0)) (h' := mk M T) (fun _ => rfl) ?_
      exact Or.inr ⟨fun q => absurd q.2 (k2_nle h2), rfl, rfl⟩
    · refine R_ret 3 (pcr := 15) (v := some (.int 1)) (h' := mk M T) (fun _ => rfl) ?_
      exact Or.inl ⟨⟨k2_le h1, k2_le h2⟩, rfl, rfl⟩
def heldX (v a b : Int32) : Int32 := if a < (if v < b then v else b) then (if v < b then v else b) else a
set_option maxRecDepth 100000 in
set_option maxHeartbeats 4000000 in
theorem c_held {ro : xRO} {d : Nat} {M : xM} {T : Nat} {v a b : Int32} : Rn ro d M_X7_held 0 [some (.int v), some (.int a), some (.int b)] [] (mk M T) (fun r h => r = some (.int (heldX v a b)) ∧ h = mk M T) := by
  refine R_ret 6 (pcr := 9) (v := some (.int (if a < (if v < b then v else b) then (if v < b then v else b) else a))) (h' := mk M T) (fun _ => rfl) ?_
  exact ⟨rfl, rfl⟩
/-- numbers -/
def strN (kd m cl cold lamp : Nat) : Nat := match kd with
  | 1 => (cold / 4 + cl / 3) / 2
  | 2 => cold / 4 + cl / 3 - m
  | 3 => if cold < 12 then 0 else (cold / 4 + cl / 3) / 3
  | 4 => if (cold / 4 + cl / 3) / 2 < m % 4 then m % 4 else (cold / 4 + cl / 3) / 2
  | 5 => if lamp = 1 then 0 else cold / 4 + cl / 3 - m
  | 6 => cold / 4 + cl / 3 + cold % 3
  | _ => cold / 4 + cl / 3
def mltN (kd m cold : Nat) : Nat := match kd with
  | 1 => 1 + m / 5 - 1
  | 2 => 2 * (1 + m / 5)
  | 4 => 1 + m / 5 - 1 + cold % 2
  | 5 => 2 * (1 + m / 5)
  | 6 => 1 + m / 5 + m
  | _ => 1 + m / 5
def sunN (fc hour : Nat) : Nat := match fc with
  | 1 => hour - 7
  | 2 => hour - 10
  | 3 => hour - 15
  | _ => 0
theorem mx_sub {a b : Nat} (ha : a < 2 ^ 30) (hb : b < 2 ^ 30) : (if (0 : Int32) < nI a - nI b then nI a - nI b else 0) = nI (a - b) := by
  rcases Nat.lt_or_ge b a with h | h
  · rw [pk_sub (by omega), if_pos]
    exact nI_lt (a := 0) (by omega) (by omega)
  · rcases Nat.lt_or_ge a b with h2 | h2
    · have h3 := pk_sneg hb h2
      rw [if_neg (k2_nlt (Int32.le_of_lt h3)), show a - b = 0 by omega]
      rfl
    · have : a = b := by omega
      subst this
      rw [pk_sub (Nat.le_refl _), Nat.sub_self]
      rfl
theorem mx_nI {a b : Nat} (ha : a < 2 ^ 30) (hb : b < 2 ^ 30) : (if nI a < nI b then nI b else nI a) = nI (if a < b then b else a) := by
  by_cases h : a < b
  · rw [if_pos h, if_pos ((nI_ltI (by omega) (by omega)).mpr h)]
  · rw [if_neg h, if_neg (fun q => h ((nI_ltI (by omega) (by omega)).mp q))]
theorem mn_nI {a b : Nat} (ha : a < 2 ^ 30) (hb : b < 2 ^ 30) : (if nI b < nI a then nI b else nI a) = nI (if b < a then b else a) := by
  by_cases h : b < a
  · rw [if_pos h, if_pos ((nI_ltI (by omega) (by omega)).mpr h)]
  · rw [if_neg h, if_neg (fun q => h ((nI_ltI (by omega) (by omega)).mp q))]
def paneF (M : xM) (c kd m fc cl : Nat) : Prop := M c 0 = nI kd ∧ M c 1 = nI m ∧ M c 2 = nI fc ∧ M c 3 = nI cl ∧ kd < 7 ∧ m < 10 ∧ fc < 4 ∧ cl < 10
set_option maxRecDepth 100000 in
set_option maxHeartbeats 4000000 in
theorem c_strokesBy {ro : xRO} {d : Nat} {M : xM} {T : Nat} {c kd m fc cl : Nat} (hc : shp[c]? = some (.inl (1, [none, none, none, none, none, none, none]))) (hF : paneF M c kd m fc cl) {cold lamp : Nat} (h1 : cold ≤ 40) (h2 : lamp ≤ 1) : Rn ro d M_X1_strokesBy 0 [some (.ref (c + 3)), some (.int (nI cold)), some (.int (nI lamp)), none] [] (mk M T) (fun r h => r = some (.int (nI (strN kd m cl cold lamp))) ∧ h = mk M T) := by
  obtain ⟨-, -, -, -, b1, b2, b3, b4⟩ := id hF
  refine R_go 3 (pc' := 3) (L' := [some (.ref (c + 3)), some (.int (nI cold)), some (.int (nI lamp)), none]) (st' := [.int ((nI cold) / 4)]) (h' := mk M T) (fun _ => rfl) ?_
  refine R_top (pk_div (a := cold) (d := 4) (by omega) (by omega) (by omega)) ?_
  refine R_go 1 (pc' := 4) (L' := [some (.ref (c + 3)), some (.int (nI cold)), some (.int (nI lamp)), none]) (st' := [.ref (c + 3), .int (nI (cold / 4))]) (h' := mk M T) (fun _ => rfl) ?_
  refine R_getI (i := 21) (j := 3) (c := c) hc rfl rfl rfl ?_
  refine R_top (y := nI cl) (hF.2.2.2.1) ?_
  refine R_go 2 (pc' := 9) (L' := [some (.ref (c + 3)), some (.int (nI cold)), some (.int (nI lamp)), none]) (st' := [.int ((nI cl) / 3), .int (nI (cold / 4))]) (h' := mk M T) (fun _ => rfl) ?_
  refine R_top (pk_div (a := cl) (d := 3) (by omega) (by omega) (by omega)) ?_
  refine R_go 1 (pc' := 10) (L' := [some (.ref (c + 3)), some (.int (nI cold)), some (.int (nI lamp)), none]) (st' := [.int (nI (cold / 4) + nI (cl / 3))]) (h' := mk M T) (fun _ => rfl) ?_
  refine R_top (nI_add (cold / 4) (cl / 3)) ?_
  refine R_go 2 (pc' := 12) (L' := [some (.ref (c + 3)), some (.int (nI cold)), some (.int (nI lamp)), some (.int (nI ((cold / 4) + (cl / 3))))]) (st' := [.ref (c + 3)]) (h' := mk M T) (fun _ => rfl) ?_
  refine R_getI (i := 9) (j := 0) (c := c) hc rfl rfl rfl ?_
  refine R_top (y := nI kd) (hF.1) ?_
  by_cases h1 : kd = 1
  · subst h1
    refine R_top (y := 1) rfl ?_
    refine R_go 4 (pc' := 55) (L' := [some (.ref (c + 3)), some (.int (nI cold)), some (.int (nI lamp)), some (.int (nI ((cold / 4) + (cl / 3))))]) (st' := [.int ((nI ((cold / 4) + (cl / 3))) / 2)]) (h' := mk M T) (fun _ => rfl) ?_
    refine R_top (pk_div (a := (cold / 4) + (cl / 3)) (d := 2) (by omega) (by omega) (by omega)) ?_
    refine R_ret 1 (pcr := 55) (v := some (.int (nI (((cold / 4) + (cl / 3)) / 2)))) (h' := mk M T) (fun _ => rfl) ?_
    exact ⟨rfl, rfl⟩
  by_cases h2 : kd = 2
  · subst h2
    refine R_top (y := 2) rfl ?_
    refine R_go 4 (pc' := 59) (L' := [some (.ref (c + 3)), some (.int (nI cold)), some (.int (nI lamp)), some (.int (nI ((cold / 4) + (cl / 3))))]) (st' := [.ref (c + 3), .int (nI ((cold / 4) + (cl / 3))), .int 0]) (h' := mk M T) (fun _ => rfl) ?_
    refine R_getI (i := 15) (j := 1) (c := c) hc rfl rfl rfl ?_
    refine R_top (y := nI m) (hF.2.1) ?_
    refine R_go 2 (pc' := 66) (L' := [some (.ref (c + 3)), some (.int (nI cold)), some (.int (nI lamp)), some (.int (nI ((cold / 4) + (cl / 3))))]) (st' := [.int (if 0 < ((nI ((cold / 4) + (cl / 3))) - (nI m)) then ((nI ((cold / 4) + (cl / 3))) - (nI m)) else 0)]) (h' := mk M T) (fun _ => rfl) ?_
    refine R_top (mx_sub (a := (cold / 4) + (cl / 3)) (b := m) (by omega) (by omega)) ?_
    refine R_ret 1 (pcr := 66) (v := some (.int (nI (((cold / 4) + (cl / 3)) - m)))) (h' := mk M T) (fun _ => rfl) ?_
    exact ⟨rfl, rfl⟩
  by_cases h3 : kd = 3
  · subst h3
    refine R_top (y := 3) rfl ?_
    refine R_if 4 (c := 12 ≤ (nI cold)) (t := 77) (f := 73) (L' := [some (.ref (c + 3)), some (.int (nI cold)), some (.int (nI lamp)), some (.int (nI ((cold / 4) + (cl / 3))))]) (st' := []) (h' := mk M T) (fun _ => rfl) (fun h4 => ?_) (fun h4 => ?_)
    · replace h4 : 12 ≤ cold := (nI_leI (a := 12) (b := cold) (by omega) (by omega)).mp h4
      refine R_go 3 (pc' := 80) (L' := [some (.ref (c + 3)), some (.int (nI cold)), some (.int (nI lamp)), some (.int (nI ((cold / 4) + (cl / 3))))]) (st' := [.int ((nI ((cold / 4) + (cl / 3))) / 3)]) (h' := mk M T) (fun _ => rfl) ?_
      refine R_top (pk_div (a := (cold / 4) + (cl / 3)) (d := 3) (by omega) (by omega) (by omega)) ?_
      refine R_ret 1 (pcr := 80) (v := some (.int (nI (((cold / 4) + (cl / 3)) / 3)))) (h' := mk M T) (fun _ => rfl) ?_
      exact ⟨by simp only [strN]; rw [if_neg (by omega)]; try rfl, rfl⟩
    · replace h4 : ¬ 12 ≤ cold := fun q => h4 ((nI_leI (a := 12) (b := cold) (by omega) (by omega)).mpr q)
      refine R_ret 3 (pcr := 80) (v := some (.int 0)) (h' := mk M T) (fun _ => rfl) ?_
      exact ⟨by simp only [strN]; rw [if_pos (by omega)]; try rfl, rfl⟩
  by_cases h5 : kd = 4
  · subst h5
    refine R_top (y := 4) rfl ?_
    refine R_go 4 (pc' := 84) (L' := [some (.ref (c + 3)), some (.int (nI cold)), some (.int (nI lamp)), some (.int (nI ((cold / 4) + (cl / 3))))]) (st' := [.int ((nI ((cold / 4) + (cl / 3))) / 2)]) (h' := mk M T) (fun _ => rfl) ?_
    refine R_top (pk_div (a := (cold / 4) + (cl / 3)) (d := 2) (by omega) (by omega) (by omega)) ?_
    refine R_go 1 (pc' := 85) (L' := [some (.ref (c + 3)), some (.int (nI cold)), some (.int (nI lamp)), some (.int (nI ((cold / 4) + (cl / 3))))]) (st' := [.ref (c + 3), .int (nI (((cold / 4) + (cl / 3)) / 2))]) (h' := mk M T) (fun _ => rfl) ?_
    refine R_getI (i := 15) (j := 1) (c := c) hc rfl rfl rfl ?_
    refine R_top (y := nI m) (hF.2.1) ?_
    refine R_go 2 (pc' := 90) (L' := [some (.ref (c + 3)), some (.int (nI cold)), some (.int (nI lamp)), some (.int (nI ((cold / 4) + (cl / 3))))]) (st' := [.int ((nI m) - (nI m) / 4 * 4), .int (nI (((cold / 4) + (cl / 3)) / 2))]) (h' := mk M T) (fun _ => rfl) ?_
    refine R_top (pk_rem (a := m) (d := 4) (by omega) (by omega) (by omega)) ?_
    refine R_go 1 (pc' := 93) (L' := [some (.ref (c + 3)), some (.int (nI cold)), some (.int (nI lamp)), some (.int (nI ((cold / 4) + (cl / 3))))]) (st' := [.int (if (nI (((cold / 4) + (cl / 3)) / 2)) < (nI (m % 4)) then (nI (m % 4)) else (nI (((cold / 4) + (cl / 3)) / 2)))]) (h' := mk M T) (fun _ => rfl) ?_
    refine R_top (mx_nI (by omega) (by omega)) ?_
    refine R_ret 1 (pcr := 93) (v := some (.int (nI (if ((cold / 4) + (cl / 3)) / 2 < m % 4 then m % 4 else ((cold / 4) + (cl / 3)) / 2)))) (h' := mk M T) (fun _ => rfl) ?_
    exact ⟨rfl, rfl⟩
  by_cases h6 : kd = 5
  · subst h6
    refine R_top (y := 5) rfl ?_
    refine R_ifn 4 (c := (nI lamp) = 1) (t := 103) (f := 99) (L' := [some (.ref (c + 3)), some (.int (nI cold)), some (.int (nI lamp)), some (.int (nI ((cold / 4) + (cl / 3))))]) (st' := []) (h' := mk M T) (fun _ => rfl) (fun h7 => ?_) (fun h7 => ?_)
    · replace h7 : ¬ lamp = 1 := fun q => h7 ((nI_eq (a := lamp) (b := 1) (by omega) (by omega)).mpr q)
      refine R_go 3 (pc' := 106) (L' := [some (.ref (c + 3)), some (.int (nI cold)), some (.int (nI lamp)), some (.int (nI ((cold / 4) + (cl / 3))))]) (st' := [.ref (c + 3), .int (nI ((cold / 4) + (cl / 3))), .int 0]) (h' := mk M T) (fun _ => rfl) ?_
      refine R_getI (i := 15) (j := 1) (c := c) hc rfl rfl rfl ?_
      refine R_top (y := nI m) (hF.2.1) ?_
      refine R_go 2 (pc' := 113) (L' := [some (.ref (c + 3)), some (.int (nI cold)), some (.int (nI lamp)), some (.int (nI ((cold / 4) + (cl / 3))))]) (st' := [.int (if 0 < ((nI ((cold / 4) + (cl / 3))) - (nI m)) then ((nI ((cold / 4) + (cl / 3))) - (nI m)) else 0)]) (h' := mk M T) (fun _ => rfl) ?_
      refine R_top (mx_sub (a := (cold / 4) + (cl / 3)) (b := m) (by omega) (by omega)) ?_
      refine R_ret 1 (pcr := 113) (v := some (.int (nI (((cold / 4) + (cl / 3)) - m)))) (h' := mk M T) (fun _ => rfl) ?_
      exact ⟨by simp only [strN]; rw [if_neg (by omega)]; try rfl, rfl⟩
    · replace h7 : lamp = 1 := (nI_eq (a := lamp) (b := 1) (by omega) (by omega)).mp h7
      refine R_ret 3 (pcr := 113) (v := some (.int 0)) (h' := mk M T) (fun _ => rfl) ?_
      exact ⟨by simp only [strN]; rw [if_pos (by omega)]; try rfl, rfl⟩
  by_cases h8 : kd = 6
  · subst h8
    refine R_top (y := 6) rfl ?_
    refine R_go 5 (pc' := 118) (L' := [some (.ref (c + 3)), some (.int (nI cold)), some (.int (nI lamp)), some (.int (nI ((cold / 4) + (cl / 3))))]) (st' := [.int ((nI cold) - (nI cold) / 3 * 3), .int (nI ((cold / 4) + (cl / 3)))]) (h' := mk M T) (fun _ => rfl) ?_
    refine R_top (pk_rem (a := cold) (d := 3) (by omega) (by omega) (by omega)) ?_
    refine R_go 1 (pc' := 119) (L' := [some (.ref (c + 3)), some (.int (nI cold)), some (.int (nI lamp)), some (.int (nI ((cold / 4) + (cl / 3))))]) (st' := [.int (nI ((cold / 4) + (cl / 3)) + nI (cold % 3))]) (h' := mk M T) (fun _ => rfl) ?_
    refine R_top (nI_add ((cold / 4) + (cl / 3)) (cold % 3)) ?_
    refine R_ret 1 (pcr := 119) (v := some (.int (nI (((cold / 4) + (cl / 3)) + (cold % 3))))) (h' := mk M T) (fun _ => rfl) ?_
    exact ⟨rfl, rfl⟩
  obtain rfl : kd = 0 := by omega
  refine R_tswd (t := 120) rfl (by decide) rfl ?_
  refine R_ret 2 (pcr := 121) (v := some (.int (nI ((cold / 4) + (cl / 3))))) (h' := mk M T) (fun _ => rfl) ?_
  exact ⟨rfl, rfl⟩
set_option maxRecDepth 100000 in
set_option maxHeartbeats 4000000 in
theorem c_meltsBy {ro : xRO} {d : Nat} {M : xM} {T : Nat} {c kd m fc cl : Nat} (hc : shp[c]? = some (.inl (1, [none, none, none, none, none, none, none]))) (hF : paneF M c kd m fc cl) {cold : Nat} (h1 : cold ≤ 40) : Rn ro d M_X1_meltsBy 0 [some (.ref (c + 3)), some (.int (nI cold)), none] [] (mk M T) (fun r h => r = some (.int (nI (mltN kd m cold))) ∧ h = mk M T) := by
  obtain ⟨-, -, -, -, b1, b2, b3, b4⟩ := id hF
  refine R_go 2 (pc' := 2) (L' := [some (.ref (c + 3)), some (.int (nI cold)), none]) (st' := [.ref (c + 3), .int 1]) (h' := mk M T) (fun _ => rfl) ?_
  refine R_getI (i := 15) (j := 1) (c := c) hc rfl rfl rfl ?_
  refine R_top (y := nI m) (hF.2.1) ?_
  refine R_go 2 (pc' := 7) (L' := [some (.ref (c + 3)), some (.int (nI cold)), none]) (st' := [.int ((nI m) / 5), .int 1]) (h' := mk M T) (fun _ => rfl) ?_
  refine R_top (pk_div (a := m) (d := 5) (by omega) (by omega) (by omega)) ?_
  refine R_go 1 (pc' := 8) (L' := [some (.ref (c + 3)), some (.int (nI cold)), none]) (st' := [.int (1 + nI (m / 5))]) (h' := mk M T) (fun _ => rfl) ?_
  refine R_top (nI_add 1 (m / 5)) ?_
  refine R_go 2 (pc' := 10) (L' := [some (.ref (c + 3)), some (.int (nI cold)), some (.int (nI (1 + (m / 5))))]) (st' := [.ref (c + 3)]) (h' := mk M T) (fun _ => rfl) ?_
  refine R_getI (i := 9) (j := 0) (c := c) hc rfl rfl rfl ?_
  refine R_top (y := nI kd) (hF.1) ?_
  by_cases h1 : kd = 1
  · subst h1
    refine R_top (y := 1) rfl ?_
    refine R_go 6 (pc' := 59) (L' := [some (.ref (c + 3)), some (.int (nI cold)), some (.int (nI (1 + (m / 5))))]) (st' := [.int (if 0 < ((nI (1 + (m / 5))) - 1) then ((nI (1 + (m / 5))) - 1) else 0)]) (h' := mk M T) (fun _ => rfl) ?_
    refine R_top (mx_sub (a := 1 + (m / 5)) (b := 1) (by omega) (by omega)) ?_
    refine R_ret 1 (pcr := 59) (v := some (.int (nI ((1 + (m / 5)) - 1)))) (h' := mk M T) (fun _ => rfl) ?_
    exact ⟨rfl, rfl⟩
  by_cases h2 : kd = 2
  · subst h2
    refine R_top (y := 2) rfl ?_
    refine R_go 4 (pc' := 63) (L' := [some (.ref (c + 3)), some (.int (nI cold)), some (.int (nI (1 + (m / 5))))]) (st' := [.int (2 * nI (1 + (m / 5)))]) (h' := mk M T) (fun _ => rfl) ?_
    refine R_top (pk_mul 2 (1 + (m / 5))) ?_
    refine R_ret 1 (pcr := 63) (v := some (.int (nI (2 * (1 + (m / 5)))))) (h' := mk M T) (fun _ => rfl) ?_
    exact ⟨rfl, rfl⟩
  by_cases h3 : kd = 3
  · subst h3
    refine R_top (y := 3) rfl ?_
    refine R_ret 3 (pcr := 88) (v := some (.int (nI (1 + (m / 5))))) (h' := mk M T) (fun _ => rfl) ?_
    exact ⟨rfl, rfl⟩
  by_cases h4 : kd = 4
  · subst h4
    refine R_top (y := 4) rfl ?_
    refine R_go 6 (pc' := 71) (L' := [some (.ref (c + 3)), some (.int (nI cold)), some (.int (nI (1 + (m / 5))))]) (st' := [.int (if 0 < ((nI (1 + (m / 5))) - 1) then ((nI (1 + (m / 5))) - 1) else 0)]) (h' := mk M T) (fun _ => rfl) ?_
    refine R_top (mx_sub (a := 1 + (m / 5)) (b := 1) (by omega) (by omega)) ?_
    refine R_go 3 (pc' := 74) (L' := [some (.ref (c + 3)), some (.int (nI cold)), some (.int (nI (1 + (m / 5))))]) (st' := [.int ((nI cold) - (nI cold) / 2 * 2), .int (nI ((1 + (m / 5)) - 1))]) (h' := mk M T) (fun _ => rfl) ?_
    refine R_top (pk_rem (a := cold) (d := 2) (by omega) (by omega) (by omega)) ?_
    refine R_go 1 (pc' := 75) (L' := [some (.ref (c + 3)), some (.int (nI cold)), some (.int (nI (1 + (m / 5))))]) (st' := [.int (nI ((1 + (m / 5)) - 1) + nI (cold % 2))]) (h' := mk M T) (fun _ => rfl) ?_
    refine R_top (nI_add ((1 + (m / 5)) - 1) (cold % 2)) ?_
    refine R_ret 1 (pcr := 75) (v := some (.int (nI (((1 + (m / 5)) - 1) + (cold % 2))))) (h' := mk M T) (fun _ => rfl) ?_
    exact ⟨rfl, rfl⟩
  by_cases h5 : kd = 5
  · subst h5
    refine R_top (y := 5) rfl ?_
    refine R_go 4 (pc' := 79) (L' := [some (.ref (c + 3)), some (.int (nI cold)), some (.int (nI (1 + (m / 5))))]) (st' := [.int (2 * nI (1 + (m / 5)))]) (h' := mk M T) (fun _ => rfl) ?_
    refine R_top (pk_mul 2 (1 + (m / 5))) ?_
    refine R_ret 1 (pcr := 79) (v := some (.int (nI (2 * (1 + (m / 5)))))) (h' := mk M T) (fun _ => rfl) ?_
    exact ⟨rfl, rfl⟩
  by_cases h6 : kd = 6
  · subst h6
    refine R_top (y := 6) rfl ?_
    refine R_go 3 (pc' := 82) (L' := [some (.ref (c + 3)), some (.int (nI cold)), some (.int (nI (1 + (m / 5))))]) (st' := [.ref (c + 3), .int (nI (1 + (m / 5)))]) (h' := mk M T) (fun _ => rfl) ?_
    refine R_getI (i := 15) (j := 1) (c := c) hc rfl rfl rfl ?_
    refine R_top (y := nI m) (hF.2.1) ?_
    refine R_go 1 (pc' := 86) (L' := [some (.ref (c + 3)), some (.int (nI cold)), some (.int (nI (1 + (m / 5))))]) (st' := [.int (nI (1 + (m / 5)) + nI m)]) (h' := mk M T) (fun _ => rfl) ?_
    refine R_top (nI_add (1 + (m / 5)) m) ?_
    refine R_ret 1 (pcr := 86) (v := some (.int (nI ((1 + (m / 5)) + m)))) (h' := mk M T) (fun _ => rfl) ?_
    exact ⟨rfl, rfl⟩
  obtain rfl : kd = 0 := by omega
  refine R_tswd (t := 87) rfl (by decide) rfl ?_
  refine R_ret 2 (pcr := 88) (v := some (.int (nI (1 + (m / 5))))) (h' := mk M T) (fun _ => rfl) ?_
  exact ⟨rfl, rfl⟩
set_option maxRecDepth 100000 in
set_option maxHeartbeats 4000000 in
theorem c_sunnyHours {ro : xRO} {d : Nat} {M : xM} {T : Nat} {c kd m fc cl : Nat} (hc : shp[c]? = some (.inl (1, [none, none, none, none, none, none, none]))) (hF : paneF M c kd m fc cl) {hour : Nat} (h1 : hour < 1000) : Rn ro d M_X1_sunnyHours 0 [some (.ref (c + 3)), some (.int (nI hour))] [] (mk M T) (fun r h => r = some (.int (nI (sunN fc hour))) ∧ h = mk M T) := by
  obtain ⟨-, -, -, -, b1, b2, b3, b4⟩ := id hF
  refine R_go 1 (pc' := 1) (L' := [some (.ref (c + 3)), some (.int (nI hour))]) (st' := [.ref (c + 3)]) (h' := mk M T) (fun _ => rfl) ?_
  refine R_getI (i := 18) (j := 2) (c := c) hc rfl rfl rfl ?_
  refine R_top (y := nI fc) (hF.2.2.1) ?_
  by_cases h1 : fc = 1
  · subst h1
    refine R_top (y := 1) rfl ?_
    refine R_go 6 (pc' := 40) (L' := [some (.ref (c + 3)), some (.int (nI hour))]) (st' := [.int (if 0 < ((nI hour) - 7) then ((nI hour) - 7) else 0)]) (h' := mk M T) (fun _ => rfl) ?_
    refine R_top (mx_sub (a := hour) (b := 7) (by omega) (by omega)) ?_
    refine R_ret 1 (pcr := 40) (v := some (.int (nI (hour - 7)))) (h' := mk M T) (fun _ => rfl) ?_
    exact ⟨rfl, rfl⟩
  by_cases h2 : fc = 2
  · subst h2
    refine R_top (y := 2) rfl ?_
    refine R_go 6 (pc' := 49) (L' := [some (.ref (c + 3)), some (.int (nI hour))]) (st' := [.int (if 0 < ((nI hour) - 10) then ((nI hour) - 10) else 0)]) (h' := mk M T) (fun _ => rfl) ?_
    refine R_top (mx_sub (a := hour) (b := 10) (by omega) (by omega)) ?_
    refine R_ret 1 (pcr := 49) (v := some (.int (nI (hour - 10)))) (h' := mk M T) (fun _ => rfl) ?_
    exact ⟨rfl, rfl⟩
  by_cases h3 : fc = 3
  · subst h3
    refine R_top (y := 3) rfl ?_
    refine R_go 6 (pc' := 58) (L' := [some (.ref (c + 3)), some (.int (nI hour))]) (st' := [.int (if 0 < ((nI hour) - 15) then ((nI hour) - 15) else 0)]) (h' := mk M T) (fun _ => rfl) ?_
    refine R_top (mx_sub (a := hour) (b := 15) (by omega) (by omega)) ?_
    refine R_ret 1 (pcr := 58) (v := some (.int (nI (hour - 15)))) (h' := mk M T) (fun _ => rfl) ?_
    exact ⟨rfl, rfl⟩
  obtain rfl : fc = 0 := by omega
  refine R_tswd (t := 59) rfl (by decide) rfl ?_
  refine R_ret 2 (pcr := 60) (v := some (.int 0)) (h' := mk M T) (fun _ => rfl) ?_
  exact ⟨rfl, rfl⟩
def lftN (kd m fc cl hour cold lamp : Nat) : Nat := strN kd m cl cold lamp - mltN kd m cold * sunN fc hour
theorem strN_le {kd m cl cold lamp : Nat} (h1 : m < 10) (h2 : cl < 10) (h3 : cold ≤ 40) : strN kd m cl cold lamp ≤ 15 := by
  unfold strN
  split
  all_goals first | omega | (split <;> omega)
theorem mltN_le {kd m cold : Nat} (h1 : m < 10) : mltN kd m cold ≤ 11 := by
  unfold mltN
  split
  all_goals omega
theorem sunN_le {fc hour : Nat} (h1 : hour < 1000) : sunN fc hour < 1000 := by
  unfold sunN
  split
  all_goals omega
theorem lftN_le {kd m fc cl hour cold lamp : Nat} (h1 : m < 10) (h2 : cl < 10) (h3 : cold ≤ 40) : lftN kd m fc cl hour cold lamp ≤ 15 := by
  have := strN_le (kd := kd) (lamp := lamp) h1 h2 h3
  unfold lftN
  omega
set_option maxRecDepth 100000 in
set_option maxHeartbeats 4000000 in
theorem c_leftAt {ro : xRO} {d : Nat} {M : xM} {T : Nat} {c kd m fc cl : Nat} (hc : shp[c]? = some (.inl (1, [none, none, none, none, none, none, none]))) (hF : paneF M c kd m fc cl) {hour cold lamp : Nat} (h1 : hour < 1000) (h2 : cold ≤ 40) (h3 : lamp ≤ 1) : Rn ro (d + 1) M_X1_leftAt 0 [some (.ref (c + 3)), some (.int (nI hour)), some (.int (nI cold)), some (.int (nI lamp))] [] (mk M T) (fun r h => r = some (.int (nI (lftN kd m fc cl hour cold lamp))) ∧ h = mk M T) := by
  obtain ⟨-, -, -, -, b1, b2, b3, b4⟩ := id hF
  have q1 := strN_le (kd := kd) (lamp := lamp) b2 b4 h2
  have q2 := mltN_le (kd := kd) (cold := cold) b2
  have q3 := sunN_le (fc := fc) h1
  have q4 : mltN kd m cold * sunN fc hour ≤ 11 * 1000 := Nat.mul_le_mul q2 (by omega)
  refine R_go 4 (pc' := 4) (L' := [some (.ref (c + 3)), some (.int (nI hour)), some (.int (nI cold)), some (.int (nI lamp))]) (st' := [.int (nI lamp), .int (nI cold), .ref (c + 3), .int 0]) (h' := mk M T) (fun _ => rfl) ?_
  refine R_callD (i := .invokevirtual 39) (kd := 0) (y := M_X1_strokesBy) (as := [.ref (c + 3), .int (nI cold), .int (nI lamp)]) (r := [.int 0]) (L0 := [some (.ref (c + 3)), some (.int (nI cold)), some (.int (nI lamp)), none]) (v := some (.int (nI (strN kd m cl cold lamp)))) (h' := mk M T) (pc' := 7) (st' := [.int (nI (strN kd m cl cold lamp)), .int 0]) rfl rfl rfl rfl (xPre_c hc rfl rfl rfl rfl) rfl (c_strokesBy hc hF h2 h3) ?_
  refine R_go 2 (pc' := 9) (L' := [some (.ref (c + 3)), some (.int (nI hour)), some (.int (nI cold)), some (.int (nI lamp))]) (st' := [.int (nI cold), .ref (c + 3), .int (nI (strN kd m cl cold lamp)), .int 0]) (h' := mk M T) (fun _ => rfl) ?_
  refine R_callD (i := .invokevirtual 42) (kd := 0) (y := M_X1_meltsBy) (as := [.ref (c + 3), .int (nI cold)]) (r := [.int (nI (strN kd m cl cold lamp)), .int 0]) (L0 := [some (.ref (c + 3)), some (.int (nI cold)), none]) (v := some (.int (nI (mltN kd m cold)))) (h' := mk M T) (pc' := 12) (st' := [.int (nI (mltN kd m cold)), .int (nI (strN kd m cl cold lamp)), .int 0]) rfl rfl rfl rfl (xPre_c hc rfl rfl rfl rfl) rfl (c_meltsBy hc hF h2) ?_
  refine R_go 2 (pc' := 14) (L' := [some (.ref (c + 3)), some (.int (nI hour)), some (.int (nI cold)), some (.int (nI lamp))]) (st' := [.int (nI hour), .ref (c + 3), .int (nI (mltN kd m cold)), .int (nI (strN kd m cl cold lamp)), .int 0]) (h' := mk M T) (fun _ => rfl) ?_
  refine R_callD (i := .invokevirtual 46) (kd := 0) (y := M_X1_sunnyHours) (as := [.ref (c + 3), .int (nI hour)]) (r := [.int (nI (mltN kd m cold)), .int (nI (strN kd m cl cold lamp)), .int 0]) (L0 := [some (.ref (c + 3)), some (.int (nI hour))]) (v := some (.int (nI (sunN fc hour)))) (h' := mk M T) (pc' := 17) (st' := [.int (nI (sunN fc hour)), .int (nI (mltN kd m cold)), .int (nI (strN kd m cl cold lamp)), .int 0]) rfl rfl rfl rfl (xPre_c hc rfl rfl rfl rfl) rfl (c_sunnyHours hc hF h1) ?_
  refine R_go 1 (pc' := 18) (L' := [some (.ref (c + 3)), some (.int (nI hour)), some (.int (nI cold)), some (.int (nI lamp))]) (st' := [.int (nI (mltN kd m cold) * nI (sunN fc hour)), .int (nI (strN kd m cl cold lamp)), .int 0]) (h' := mk M T) (fun _ => rfl) ?_
  refine R_top (pk_mul (mltN kd m cold) (sunN fc hour)) ?_
  refine R_go 2 (pc' := 22) (L' := [some (.ref (c + 3)), some (.int (nI hour)), some (.int (nI cold)), some (.int (nI lamp))]) (st' := [.int (if 0 < ((nI (strN kd m cl cold lamp)) - (nI ((mltN kd m cold) * (sunN fc hour)))) then ((nI (strN kd m cl cold lamp)) - (nI ((mltN kd m cold) * (sunN fc hour)))) else 0)]) (h' := mk M T) (fun _ => rfl) ?_
  refine R_top (mx_sub (a := strN kd m cl cold lamp) (b := (mltN kd m cold) * (sunN fc hour)) (by omega) (by omega)) ?_
  refine R_ret 1 (pcr := 22) (v := some (.int (nI ((strN kd m cl cold lamp) - ((mltN kd m cold) * (sunN fc hour)))))) (h' := mk M T) (fun _ => rfl) ?_
  exact ⟨rfl, rfl⟩
