/-! OPERATION text: the reader of the class -/
def tpX (f : Nat → Int32) (L u : Nat) (Mb : xM) (s : tpS) (M : xM) : Prop := M 45 4 = nI s.1 ∧ M 46 2 = nI s.2.1 ∧ (∀ i, i < s.2.1 → M 47 i = encS (s.2.2.1 i) (s.2.2.2 i)) ∧ (M 45 2 = nI L ∧ M 45 3 = nI u ∧ ∀ i, i < 60 → M 12 i = f i) ∧ ∀ c, c ≠ 45 → c ≠ 46 → c ≠ 47 → M c = Mb c
def tpF (Mb : xM) (p : Nat) (M : xM) : Prop := M 45 4 = nI p ∧ (∃ k, k ≤ 60 ∧ M 46 2 = nI k) ∧ ∀ c, c ≠ 45 → c ≠ 46 → c ≠ 47 → M c = Mb c
def tpQ (f : Nat → Int32) (L u : Nat) (Mb : xM) (r : tpT) : Option Value → xH → Prop := match r with
  | .inl p => fun rr h => ∃ M', tpF Mb p M' ∧ rr = some (.int 0) ∧ h = mk M' 15
  | .inr s => fun rr h => ∃ M', tpX f L u Mb s M' ∧ rr = some (.int 1) ∧ h = mk M' 15
theorem tpX.adv {f : Nat → Int32} {L u : Nat} {Mb M : xM} {s : tpS} (h : tpX f L u Mb s M) : tpX f L u Mb (tp_adv s) (up M 45 4 (nI (s.1 + 1))) := by
  obtain ⟨h1, h2, h3, ⟨h4, h5, h6⟩, h7⟩ := h
  refine ⟨up_at, h2, h3, ⟨h4, h5, h6⟩, fun c a b d => ?_⟩
  rw [up_ne a]
  exact h7 c a b d
theorem tpX.psh {f : Nat → Int32} {L u : Nat} {Mb M : xM} {s : tpS} {a w v : Int32} (h : tpX f L u Mb s M) (hv : v = encS a w) : tpX f L u Mb (tp_psh s a w) (up (up M 47 s.2.1 v) 46 2 (nI (s.2.1 + 1))) := by
  obtain ⟨h1, h2, h3, ⟨h4, h5, h6⟩, h7⟩ := h
  refine ⟨h1, up_at, fun i hi => ?_, ⟨h4, h5, h6⟩, fun c a b d => ?_⟩
  · rw [up_ne (by omega), up_eq]
    show upd (M 47) s.2.1 v i = encS (upd s.2.2.1 s.2.1 a i) (upd s.2.2.2 s.2.1 w i)
    by_cases q : i = s.2.1
    · rw [q, upd_eq, upd_eq, upd_eq]
      exact hv
    · rw [upd_ne q, upd_ne q, upd_ne q]
      exact h3 i (by have : i < s.2.1 + 1 := hi; omega)
  · rw [up_ne b, up_ne d]
    exact h7 c a b d
theorem tpX.flt {f : Nat → Int32} {L u : Nat} {Mb M : xM} {s : tpS} (h : tpX f L u Mb s M) (hk : s.2.1 ≤ 60) : tpF Mb s.1 M := ⟨h.1, ⟨_, hk, h.2.1⟩, h.2.2.2.2⟩
theorem encS_1 {w : Int32} : encS 1 w = w := if_pos rfl
theorem encS_2 {w : Int32} : encS 2 w = 10000 + w := (if_neg (by decide)).trans (if_pos rfl)
theorem encS_3 {w : Int32} : encS 3 w = 20033 := (if_neg (by decide)).trans ((if_neg (by decide)).trans (if_pos rfl))
theorem encS_g {a w : Int32} (h : sgnT a) : encS a w = 20000 + a := by
  have g := tp_sgn h
  exact (if_neg g.1).trans ((if_neg g.2.1).trans (if_neg g.2.2))
set_option maxRecDepth 100000 in
set_option maxHeartbeats 4000000 in
theorem tc_next_i {ro : xRO} {d : Nat} {M : xM} {T : Nat} {p L : Nat} (hp : M 45 4 = nI p) (hL : M 45 2 = nI L) (hle : p ≤ L) (h60 : L ≤ 60) (hi : p < L) : Rn ro d M_X2_next 0 [some (.ref 48)] [] (mk M 15) (fun r h => r = some (.int (M 12 p)) ∧ h = mk M 15) := by
  refine R_go 2 (pc' := 4) (L' := [some (.ref 48)]) (st' := [.int (M 45 4)]) (h' := mk M 15) (fun _ => rfl) ?_
  refine R_top (y := nI p) (hp) ?_
  refine R_if 1 (c := (nI p) < 0) (t := 42) (f := 7) (L' := [some (.ref 48)]) (st' := []) (h' := mk M 15) (fun _ => rfl) (fun h1 => ?_) (fun h1 => ?_)
  · replace h1 : p < 0 := (nI_ltI (a := p) (b := 0) (by omega) (by omega)).mp h1
    omega
  · replace h1 : ¬ p < 0 := fun q => h1 ((nI_ltI (a := p) (b := 0) (by omega) (by omega)).mpr q)
    refine R_go 2 (pc' := 11) (L' := [some (.ref 48)]) (st' := [.int (M 45 4)]) (h' := mk M 15) (fun _ => rfl) ?_
    refine R_top (y := nI p) (hp) ?_
    refine R_go 2 (pc' := 15) (L' := [some (.ref 48)]) (st' := [.int (M 45 2), .int (nI p)]) (h' := mk M 15) (fun _ => rfl) ?_
    refine R_top (y := nI L) (hL) ?_
    refine R_if 1 (c := (nI L) ≤ (nI p)) (t := 42) (f := 18) (L' := [some (.ref 48)]) (st' := []) (h' := mk M 15) (fun _ => rfl) (fun h2 => ?_) (fun h2 => ?_)
    · replace h2 : L ≤ p := (nI_leI (a := L) (b := p) (by omega) (by omega)).mp h2
      omega
    · replace h2 : ¬ L ≤ p := fun q => h2 ((nI_leI (a := L) (b := p) (by omega) (by omega)).mpr q)
      refine R_go 2 (pc' := 22) (L' := [some (.ref 48)]) (st' := [.int (M 45 4)]) (h' := mk M 15) (fun _ => rfl) ?_
      refine R_top (y := nI p) (hp) ?_
      refine R_if 4 (c := 60 ≤ (nI p)) (t := 42) (f := 30) (L' := [some (.ref 48)]) (st' := []) (h' := mk M 15) (fun _ => rfl) (fun h3 => ?_) (fun h3 => ?_)
      · replace h3 : 60 ≤ p := (nI_leI (a := 60) (b := p) (by omega) (by omega)).mp h3
        omega
      · replace h3 : ¬ 60 ≤ p := fun q => h3 ((nI_leI (a := 60) (b := p) (by omega) (by omega)).mpr q)
        refine R_go 4 (pc' := 38) (L' := [some (.ref 48)]) (st' := [.int (M 45 4), .ref 15]) (h' := mk M 15) (fun _ => rfl) ?_
        refine R_top (y := nI p) (hp) ?_
        refine R_iald (c := 12) (n := 60) (j := p) rfl rfl (by omega) (by decide) ?_
        refine R_ret 2 (pcr := 43) (v := some (.int (M 12 p))) (h' := mk M 15) (fun _ => rfl) ?_
        exact ⟨rfl, rfl⟩
set_option maxRecDepth 100000 in
set_option maxHeartbeats 4000000 in
theorem tc_next_o {ro : xRO} {d : Nat} {M : xM} {T : Nat} {p L : Nat} (hp : M 45 4 = nI p) (hL : M 45 2 = nI L) (hle : p ≤ L) (h60 : L ≤ 60) (hi : L ≤ p) : Rn ro d M_X2_next 0 [some (.ref 48)] [] (mk M 15) (fun r h => r = some (.int (-1)) ∧ h = mk M 15) := by
  refine R_go 2 (pc' := 4) (L' := [some (.ref 48)]) (st' := [.int (M 45 4)]) (h' := mk M 15) (fun _ => rfl) ?_
  refine R_top (y := nI p) (hp) ?_
  refine R_if 1 (c := (nI p) < 0) (t := 42) (f := 7) (L' := [some (.ref 48)]) (st' := []) (h' := mk M 15) (fun _ => rfl) (fun h1 => ?_) (fun h1 => ?_)
  · replace h1 : p < 0 := (nI_ltI (a := p) (b := 0) (by omega) (by omega)).mp h1
    omega
  · replace h1 : ¬ p < 0 := fun q => h1 ((nI_ltI (a := p) (b := 0) (by omega) (by omega)).mpr q)
    refine R_go 2 (pc' := 11) (L' := [some (.ref 48)]) (st' := [.int (M 45 4)]) (h' := mk M 15) (fun _ => rfl) ?_
    refine R_top (y := nI p) (hp) ?_
    refine R_go 2 (pc' := 15) (L' := [some (.ref 48)]) (st' := [.int (M 45 2), .int (nI p)]) (h' := mk M 15) (fun _ => rfl) ?_
    refine R_top (y := nI L) (hL) ?_
    refine R_if 1 (c := (nI L) ≤ (nI p)) (t := 42) (f := 18) (L' := [some (.ref 48)]) (st' := []) (h' := mk M 15) (fun _ => rfl) (fun h2 => ?_) (fun h2 => ?_)
    · replace h2 : L ≤ p := (nI_leI (a := L) (b := p) (by omega) (by omega)).mp h2
      refine R_ret 2 (pcr := 43) (v := some (.int (-1))) (h' := mk M 15) (fun _ => rfl) ?_
      exact ⟨rfl, rfl⟩
    · replace h2 : ¬ L ≤ p := fun q => h2 ((nI_leI (a := L) (b := p) (by omega) (by omega)).mpr q)
      omega
theorem tc_next {ro : xRO} {d : Nat} {M Mb : xM} {f : Nat → Int32} {L u : Nat} {s : tpS} (hx : tpX f L u Mb s M) (hle : s.1 ≤ L) (h60 : L ≤ 60) : Rn ro d M_X2_next 0 [some (.ref 48)] [] (mk M 15) (fun r h => r = some (.int (tp_lk f L s.1)) ∧ h = mk M 15) := by
  rcases Nat.lt_or_ge s.1 L with q | q
  · refine (tc_next_i (T := 15) hx.1 hx.2.2.2.1.1 hle h60 q).imp (fun _ _ w => ⟨w.1.trans ?_, w.2⟩)
    rw [hx.2.2.2.1.2.2 _ (by omega)]
    unfold tp_lk
    rw [if_pos q]
  · refine (tc_next_o (T := 15) hx.1 hx.2.2.2.1.1 hle h60 q).imp (fun _ _ w => ⟨w.1.trans ?_, w.2⟩)
    unfold tp_lk
    rw [if_neg (by omega)]
set_option maxRecDepth 100000 in
set_option maxHeartbeats 4000000 in
theorem tc_isDigit {ro : xRO} {d : Nat} {M : xM} {T : Nat} {b : Int32} : Rn ro d M_X2_isDigit 0 [some (.int b)] [] (mk M T) (fun r h => ((48 ≤ b ∧ b ≤ 57) ∧ r = some (.int 1) ∧ h = mk M T) ∨ (¬ (48 ≤ b ∧ b ≤ 57) ∧ r = some (.int 0) ∧ h = mk M T)) := by
  refine R_if 3 (c := b < 48) (t := 16) (f := 6) (L' := [some (.int b)]) (st' := []) (h' := mk M T) (fun _ => rfl) (fun h1 => ?_) (fun h1 => ?_)
  · refine R_ret 2 (pcr := 17) (v := some (.int 0)) (h' := mk M T) (fun _ => rfl) ?_
    exact Or.inr ⟨fun q => absurd q.1 (k2_nle h1), rfl, rfl⟩
  · refine R_if 3 (c := 57 < b) (t := 16) (f := 12) (L' := [some (.int b)]) (st' := []) (h' := mk M T) (fun _ => rfl) (fun h2 => ?_) (fun h2 => ?_)
    · refine R_ret 2 (pcr := 17) (v := some (.int 0)) (h' := mk M T) (fun _ => rfl) ?_
      exact Or.inr ⟨fun q => absurd q.2 (k2_nle h2), rfl, rfl⟩
    · refine R_ret 3 (pcr := 17) (v := some (.int 1)) (h' := mk M T) (fun _ => rfl) ?_
      exact Or.inl ⟨⟨k2_le h1, k2_le h2⟩, rfl, rfl⟩
set_option maxRecDepth 100000 in
set_option maxHeartbeats 4000000 in
theorem tc_levelOf {ro : xRO} {d : Nat} {M : xM} {T : Nat} {b : Int32} : Rn ro d M_X2_levelOf 0 [some (.int b)] [] (mk M T) (fun r h => r = some (.int (tp_lv b)) ∧ h = mk M T) := by
  refine R_go 1 (pc' := 1) (L' := [some (.int b)]) (st' := [.int b]) (h' := mk M T) (fun _ => rfl) ?_
  rcases Decidable.em (b = 37) with h1 | h1
  · refine R_top h1 ?_
    refine R_ret 3 (pcr := 101) (v := some (.int 4)) (h' := mk M T) (fun _ => rfl) ?_
    exact ⟨by rw [h1]; rfl, rfl⟩
  rcases Decidable.em (b = 38) with h2 | h2
  · refine R_top h2 ?_
    refine R_ret 3 (pcr := 95) (v := some (.int 1)) (h' := mk M T) (fun _ => rfl) ?_
    exact ⟨by rw [h2]; rfl, rfl⟩
  rcases Decidable.em (b = 42) with h3 | h3
  · refine R_top h3 ?_
    refine R_ret 3 (pcr := 101) (v := some (.int 4)) (h' := mk M T) (fun _ => rfl) ?_
    exact ⟨by rw [h3]; rfl, rfl⟩
  rcases Decidable.em (b = 43) with h4 | h4
  · refine R_top h4 ?_
    refine R_ret 3 (pcr := 99) (v := some (.int 3)) (h' := mk M T) (fun _ => rfl) ?_
    exact ⟨by rw [h4]; rfl, rfl⟩
  rcases Decidable.em (b = 45) with h5 | h5
  · refine R_top h5 ?_
    refine R_ret 3 (pcr := 99) (v := some (.int 3)) (h' := mk M T) (fun _ => rfl) ?_
    exact ⟨by rw [h5]; rfl, rfl⟩
  rcases Decidable.em (b = 47) with h6 | h6
  · refine R_top h6 ?_
    refine R_ret 3 (pcr := 101) (v := some (.int 4)) (h' := mk M T) (fun _ => rfl) ?_
    exact ⟨by rw [h6]; rfl, rfl⟩
  rcases Decidable.em (b = 60) with h7 | h7
  · refine R_top h7 ?_
    refine R_ret 3 (pcr := 97) (v := some (.int 2)) (h' := mk M T) (fun _ => rfl) ?_
    exact ⟨by rw [h7]; rfl, rfl⟩
  rcases Decidable.em (b = 61) with h8 | h8
  · refine R_top h8 ?_
    refine R_ret 3 (pcr := 97) (v := some (.int 2)) (h' := mk M T) (fun _ => rfl) ?_
    exact ⟨by rw [h8]; rfl, rfl⟩
  rcases Decidable.em (b = 62) with h9 | h9
  · refine R_top h9 ?_
    refine R_ret 3 (pcr := 97) (v := some (.int 2)) (h' := mk M T) (fun _ => rfl) ?_
    exact ⟨by rw [h9]; rfl, rfl⟩
  rcases Decidable.em (b = 124) with h10 | h10
  · refine R_top h10 ?_
    refine R_ret 3 (pcr := 93) (v := some (.int 0)) (h' := mk M T) (fun _ => rfl) ?_
    exact ⟨by rw [h10]; rfl, rfl⟩
  refine R_lswd (o := 101) (t := 102) rfl rfl (by show Op.lookupswitch.offset [((37 : Int), (99 : Int)), ((38 : Int), (93 : Int)), ((42 : Int), (99 : Int)), ((43 : Int), (97 : Int)), ((45 : Int), (97 : Int)), ((47 : Int), (99 : Int)), ((60 : Int), (95 : Int)), ((61 : Int), (95 : Int)), ((62 : Int), (95 : Int)), ((124 : Int), (91 : Int))] (101) _ = _; rw [lv_osw (a := 37) h1 rfl, lv_osw (a := 38) h2 rfl, lv_osw (a := 42) h3 rfl, lv_osw (a := 43) h4 rfl, lv_osw (a := 45) h5 rfl, lv_osw (a := 47) h6 rfl, lv_osw (a := 60) h7 rfl, lv_osw (a := 61) h8 rfl, lv_osw (a := 62) h9 rfl, lv_osw (a := 124) h10 rfl]; rfl) rfl ?_
  refine R_ret 2 (pcr := 103) (v := some (.int (-1))) (h' := mk M T) (fun _ => rfl) ?_
  exact ⟨by unfold tp_lv; rw [if_neg ‹¬ b = 37›, if_neg ‹¬ b = 38›, if_neg ‹¬ b = 42›, if_neg ‹¬ b = 43›, if_neg ‹¬ b = 45›, if_neg ‹¬ b = 47›, if_neg ‹¬ b = 60›, if_neg ‹¬ b = 61›, if_neg ‹¬ b = 62›, if_neg ‹¬ b = 124›], rfl⟩
set_option maxRecDepth 100000 in
set_option maxHeartbeats 4000000 in
theorem tc_nameOf_0 {ro : xRO} {d : Nat} {M : xM} {T : Nat} {b : Int32} (hu : M 45 3 = 0) : Rn ro d M_X2_nameOf 0 [some (.ref 48), some (.int b)] [] (mk M T) (fun r h => r = some (.int (tp_nm0 b)) ∧ h = mk M T) := by
  refine R_go 1 (pc' := 1) (L' := [some (.ref 48), some (.int b)]) (st' := [.int b]) (h' := mk M T) (fun _ => rfl) ?_
  rcases Decidable.em (b = 102) with h1 | h1
  · refine R_top h1 ?_
    refine R_go 3 (pc' := 105) (L' := [some (.ref 48), some (.int b)]) (st' := [.int (M 45 3)]) (h' := mk M T) (fun _ => rfl) ?_
    refine R_top (y := 0) (hu) ?_
    refine R_ret 4 (pcr := 113) (v := some (.int 1)) (h' := mk M T) (fun _ => rfl) ?_
    exact ⟨by rw [h1]; rfl, rfl⟩
  rcases Decidable.em (b = 103) with h2 | h2
  · refine R_top h2 ?_
    refine R_ret 3 (pcr := 170) (v := some (.int (-1))) (h' := mk M T) (fun _ => rfl) ?_
    exact ⟨by rw [h2]; rfl, rfl⟩
  rcases Decidable.em (b = 104) with h3 | h3
  · refine R_top h3 ?_
    refine R_go 3 (pc' := 159) (L' := [some (.ref 48), some (.int b)]) (st' := [.int (M 45 3)]) (h' := mk M T) (fun _ => rfl) ?_
    refine R_top (y := 0) (hu) ?_
    refine R_ret 4 (pcr := 168) (v := some (.int (-1))) (h' := mk M T) (fun _ => rfl) ?_
    exact ⟨by rw [h3]; rfl, rfl⟩
  rcases Decidable.em (b = 105) with h4 | h4
  · refine R_top h4 ?_
    refine R_ret 3 (pcr := 170) (v := some (.int (-1))) (h' := mk M T) (fun _ => rfl) ?_
    exact ⟨by rw [h4]; rfl, rfl⟩
  rcases Decidable.em (b = 106) with h5 | h5
  · refine R_top h5 ?_
    refine R_ret 3 (pcr := 170) (v := some (.int (-1))) (h' := mk M T) (fun _ => rfl) ?_
    exact ⟨by rw [h5]; rfl, rfl⟩
  rcases Decidable.em (b = 107) with h6 | h6
  · refine R_top h6 ?_
    refine R_go 3 (pc' := 118) (L' := [some (.ref 48), some (.int b)]) (st' := [.int (M 45 3)]) (h' := mk M T) (fun _ => rfl) ?_
    refine R_top (y := 0) (hu) ?_
    refine R_ret 4 (pcr := 126) (v := some (.int 2)) (h' := mk M T) (fun _ => rfl) ?_
    exact ⟨by rw [h6]; rfl, rfl⟩
  rcases Decidable.em (b = 108) with h7 | h7
  · refine R_top h7 ?_
    refine R_ret 3 (pcr := 170) (v := some (.int (-1))) (h' := mk M T) (fun _ => rfl) ?_
    exact ⟨by rw [h7]; rfl, rfl⟩
  rcases Decidable.em (b = 109) with h8 | h8
  · refine R_top h8 ?_
    refine R_ret 3 (pcr := 170) (v := some (.int (-1))) (h' := mk M T) (fun _ => rfl) ?_
    exact ⟨by rw [h8]; rfl, rfl⟩
  rcases Decidable.em (b = 110) with h9 | h9
  · refine R_top h9 ?_
    refine R_ret 3 (pcr := 170) (v := some (.int (-1))) (h' := mk M T) (fun _ => rfl) ?_
    exact ⟨by rw [h9]; rfl, rfl⟩
  rcases Decidable.em (b = 111) with h10 | h10
  · refine R_top h10 ?_
    refine R_ret 3 (pcr := 170) (v := some (.int (-1))) (h' := mk M T) (fun _ => rfl) ?_
    exact ⟨by rw [h10]; rfl, rfl⟩
  rcases Decidable.em (b = 112) with h11 | h11
  · refine R_top h11 ?_
    refine R_ret 3 (pcr := 170) (v := some (.int (-1))) (h' := mk M T) (fun _ => rfl) ?_
    exact ⟨by rw [h11]; rfl, rfl⟩
  rcases Decidable.em (b = 113) with h12 | h12
  · refine R_top h12 ?_
    refine R_ret 3 (pcr := 170) (v := some (.int (-1))) (h' := mk M T) (fun _ => rfl) ?_
    exact ⟨by rw [h12]; rfl, rfl⟩
  rcases Decidable.em (b = 114) with h13 | h13
  · refine R_top h13 ?_
    refine R_go 3 (pc' := 131) (L' := [some (.ref 48), some (.int b)]) (st' := [.int (M 45 3)]) (h' := mk M T) (fun _ => rfl) ?_
    refine R_top (y := 0) (hu) ?_
    refine R_ret 4 (pcr := 140) (v := some (.int (-1))) (h' := mk M T) (fun _ => rfl) ?_
    exact ⟨by rw [h13]; rfl, rfl⟩
  rcases Decidable.em (b = 115) with h14 | h14
  · refine R_top h14 ?_
    refine R_go 3 (pc' := 92) (L' := [some (.ref 48), some (.int b)]) (st' := [.int (M 45 3)]) (h' := mk M T) (fun _ => rfl) ?_
    refine R_top (y := 0) (hu) ?_
    refine R_ret 4 (pcr := 100) (v := some (.int 0)) (h' := mk M T) (fun _ => rfl) ?_
    exact ⟨by rw [h14]; rfl, rfl⟩
  rcases Decidable.em (b = 116) with h15 | h15
  · refine R_top h15 ?_
    refine R_ret 3 (pcr := 170) (v := some (.int (-1))) (h' := mk M T) (fun _ => rfl) ?_
    exact ⟨by rw [h15]; rfl, rfl⟩
  rcases Decidable.em (b = 117) with h16 | h16
  · refine R_top h16 ?_
    refine R_ret 3 (pcr := 170) (v := some (.int (-1))) (h' := mk M T) (fun _ => rfl) ?_
    exact ⟨by rw [h16]; rfl, rfl⟩
  rcases Decidable.em (b = 118) with h17 | h17
  · refine R_top h17 ?_
    refine R_ret 3 (pcr := 170) (v := some (.int (-1))) (h' := mk M T) (fun _ => rfl) ?_
    exact ⟨by rw [h17]; rfl, rfl⟩
  rcases Decidable.em (b = 119) with h18 | h18
  · refine R_top h18 ?_
    refine R_go 3 (pc' := 145) (L' := [some (.ref 48), some (.int b)]) (st' := [.int (M 45 3)]) (h' := mk M T) (fun _ => rfl) ?_
    refine R_top (y := 0) (hu) ?_
    refine R_ret 4 (pcr := 154) (v := some (.int (-1))) (h' := mk M T) (fun _ => rfl) ?_
    exact ⟨by rw [h18]; rfl, rfl⟩
  refine R_tswd (t := 169) rfl (by have := lv_neT h1 (a := 102) rfl; have := lv_neT h2 (a := 103) rfl; have := lv_neT h3 (a := 104) rfl; have := lv_neT h4 (a := 105) rfl; have := lv_neT h5 (a := 106) rfl; have := lv_neT h6 (a := 107) rfl; have := lv_neT h7 (a := 108) rfl; have := lv_neT h8 (a := 109) rfl; have := lv_neT h9 (a := 110) rfl; have := lv_neT h10 (a := 111) rfl; have := lv_neT h11 (a := 112) rfl; have := lv_neT h12 (a := 113) rfl; have := lv_neT h13 (a := 114) rfl; have := lv_neT h14 (a := 115) rfl; have := lv_neT h15 (a := 116) rfl; have := lv_neT h16 (a := 117) rfl; have := lv_neT h17 (a := 118) rfl; have := lv_neT h18 (a := 119) rfl; omega) rfl ?_
  refine R_ret 2 (pcr := 170) (v := some (.int (-1))) (h' := mk M T) (fun _ => rfl) ?_
  exact ⟨by unfold tp_nm0; rw [if_neg ‹¬ b = 102›, if_neg ‹¬ b = 107›, if_neg ‹¬ b = 115›], rfl⟩
set_option maxRecDepth 100000 in
set_option maxHeartbeats 4000000 in
theorem tc_nameOf_1 {ro : xRO} {d : Nat} {M : xM} {T : Nat} {b : Int32} (hu : M 45 3 = 1) : Rn ro d M_X2_nameOf 0 [some (.ref 48), some (.int b)] [] (mk M T) (fun r h => r = some (.int (tp_nm1 b)) ∧ h = mk M T) := by
  refine R_go 1 (pc' := 1) (L' := [some (.ref 48), some (.int b)]) (st' := [.int b]) (h' := mk M T) (fun _ => rfl) ?_
  rcases Decidable.em (b = 102) with h1 | h1
  · refine R_top h1 ?_
    refine R_go 3 (pc' := 105) (L' := [some (.ref 48), some (.int b)]) (st' := [.int (M 45 3)]) (h' := mk M T) (fun _ => rfl) ?_
    refine R_top (y := 1) (hu) ?_
    refine R_ret 3 (pcr := 113) (v := some (.int (-1))) (h' := mk M T) (fun _ => rfl) ?_
    exact ⟨by rw [h1]; rfl, rfl⟩
  rcases Decidable.em (b = 103) with h2 | h2
  · refine R_top h2 ?_
    refine R_ret 3 (pcr := 170) (v := some (.int (-1))) (h' := mk M T) (fun _ => rfl) ?_
    exact ⟨by rw [h2]; rfl, rfl⟩
  rcases Decidable.em (b = 104) with h3 | h3
  · refine R_top h3 ?_
    refine R_go 3 (pc' := 159) (L' := [some (.ref 48), some (.int b)]) (st' := [.int (M 45 3)]) (h' := mk M T) (fun _ => rfl) ?_
    refine R_top (y := 1) (hu) ?_
    refine R_ret 5 (pcr := 168) (v := some (.int 2)) (h' := mk M T) (fun _ => rfl) ?_
    exact ⟨by rw [h3]; rfl, rfl⟩
  rcases Decidable.em (b = 105) with h4 | h4
  · refine R_top h4 ?_
    refine R_ret 3 (pcr := 170) (v := some (.int (-1))) (h' := mk M T) (fun _ => rfl) ?_
    exact ⟨by rw [h4]; rfl, rfl⟩
  rcases Decidable.em (b = 106) with h5 | h5
  · refine R_top h5 ?_
    refine R_ret 3 (pcr := 170) (v := some (.int (-1))) (h' := mk M T) (fun _ => rfl) ?_
    exact ⟨by rw [h5]; rfl, rfl⟩
  rcases Decidable.em (b = 107) with h6 | h6
  · refine R_top h6 ?_
    refine R_go 3 (pc' := 118) (L' := [some (.ref 48), some (.int b)]) (st' := [.int (M 45 3)]) (h' := mk M T) (fun _ => rfl) ?_
    refine R_top (y := 1) (hu) ?_
    refine R_ret 3 (pcr := 126) (v := some (.int (-1))) (h' := mk M T) (fun _ => rfl) ?_
    exact ⟨by rw [h6]; rfl, rfl⟩
  rcases Decidable.em (b = 108) with h7 | h7
  · refine R_top h7 ?_
    refine R_ret 3 (pcr := 170) (v := some (.int (-1))) (h' := mk M T) (fun _ => rfl) ?_
    exact ⟨by rw [h7]; rfl, rfl⟩
  rcases Decidable.em (b = 109) with h8 | h8
  · refine R_top h8 ?_
    refine R_ret 3 (pcr := 170) (v := some (.int (-1))) (h' := mk M T) (fun _ => rfl) ?_
    exact ⟨by rw [h8]; rfl, rfl⟩
  rcases Decidable.em (b = 110) with h9 | h9
  · refine R_top h9 ?_
    refine R_ret 3 (pcr := 170) (v := some (.int (-1))) (h' := mk M T) (fun _ => rfl) ?_
    exact ⟨by rw [h9]; rfl, rfl⟩
  rcases Decidable.em (b = 111) with h10 | h10
  · refine R_top h10 ?_
    refine R_ret 3 (pcr := 170) (v := some (.int (-1))) (h' := mk M T) (fun _ => rfl) ?_
    exact ⟨by rw [h10]; rfl, rfl⟩
  rcases Decidable.em (b = 112) with h11 | h11
  · refine R_top h11 ?_
    refine R_ret 3 (pcr := 170) (v := some (.int (-1))) (h' := mk M T) (fun _ => rfl) ?_
    exact ⟨by rw [h11]; rfl, rfl⟩
  rcases Decidable.em (b = 113) with h12 | h12
  · refine R_top h12 ?_
    refine R_ret 3 (pcr := 170) (v := some (.int (-1))) (h' := mk M T) (fun _ => rfl) ?_
    exact ⟨by rw [h12]; rfl, rfl⟩
  rcases Decidable.em (b = 114) with h13 | h13
  · refine R_top h13 ?_
    refine R_go 3 (pc' := 131) (L' := [some (.ref 48), some (.int b)]) (st' := [.int (M 45 3)]) (h' := mk M T) (fun _ => rfl) ?_
    refine R_top (y := 1) (hu) ?_
    refine R_ret 5 (pcr := 140) (v := some (.int 0)) (h' := mk M T) (fun _ => rfl) ?_
    exact ⟨by rw [h13]; rfl, rfl⟩
  rcases Decidable.em (b = 115) with h14 | h14
  · refine R_top h14 ?_
    refine R_go 3 (pc' := 92) (L' := [some (.ref 48), some (.int b)]) (st' := [.int (M 45 3)]) (h' := mk M T) (fun _ => rfl) ?_
    refine R_top (y := 1) (hu) ?_
    refine R_ret 3 (pcr := 100) (v := some (.int (-1))) (h' := mk M T) (fun _ => rfl) ?_
    exact ⟨by rw [h14]; rfl, rfl⟩
  rcases Decidable.em (b = 116) with h15 | h15
  · refine R_top h15 ?_
    refine R_ret 3 (pcr := 170) (v := some (.int (-1))) (h' := mk M T) (fun _ => rfl) ?_
    exact ⟨by rw [h15]; rfl, rfl⟩
  rcases Decidable.em (b = 117) with h16 | h16
  · refine R_top h16 ?_
    refine R_ret 3 (pcr := 170) (v := some (.int (-1))) (h' := mk M T) (fun _ => rfl) ?_
    exact ⟨by rw [h16]; rfl, rfl⟩
  rcases Decidable.em (b = 118) with h17 | h17
  · refine R_top h17 ?_
    refine R_ret 3 (pcr := 170) (v := some (.int (-1))) (h' := mk M T) (fun _ => rfl) ?_
    exact ⟨by rw [h17]; rfl, rfl⟩
  rcases Decidable.em (b = 119) with h18 | h18
  · refine R_top h18 ?_
    refine R_go 3 (pc' := 145) (L' := [some (.ref 48), some (.int b)]) (st' := [.int (M 45 3)]) (h' := mk M T) (fun _ => rfl) ?_
    refine R_top (y := 1) (hu) ?_
    refine R_ret 5 (pcr := 154) (v := some (.int 1)) (h' := mk M T) (fun _ => rfl) ?_
    exact ⟨by rw [h18]; rfl, rfl⟩
  refine R_tswd (t := 169) rfl (by have := lv_neT h1 (a := 102) rfl; have := lv_neT h2 (a := 103) rfl; have := lv_neT h3 (a := 104) rfl; have := lv_neT h4 (a := 105) rfl; have := lv_neT h5 (a := 106) rfl; have := lv_neT h6 (a := 107) rfl; have := lv_neT h7 (a := 108) rfl; have := lv_neT h8 (a := 109) rfl; have := lv_neT h9 (a := 110) rfl; have := lv_neT h10 (a := 111) rfl; have := lv_neT h11 (a := 112) rfl; have := lv_neT h12 (a := 113) rfl; have := lv_neT h13 (a := 114) rfl; have := lv_neT h14 (a := 115) rfl; have := lv_neT h15 (a := 116) rfl; have := lv_neT h16 (a := 117) rfl; have := lv_neT h17 (a := 118) rfl; have := lv_neT h18 (a := 119) rfl; omega) rfl ?_
  refine R_ret 2 (pcr := 170) (v := some (.int (-1))) (h' := mk M T) (fun _ => rfl) ?_
  exact ⟨by unfold tp_nm1; rw [if_neg ‹¬ b = 104›, if_neg ‹¬ b = 114›, if_neg ‹¬ b = 119›], rfl⟩
theorem tc_nameOf {ro : xRO} {d T : Nat} {M Mb : xM} {f : Nat → Int32} {L u : Nat} {s : tpS} {b : Int32} (hx : tpX f L u Mb s M) (u1 : u ≤ 1) : Rn ro d M_X2_nameOf 0 [some (.ref 48), some (.int b)] [] (mk M T) (fun r h => r = some (.int (tp_nm u b)) ∧ h = mk M T) := by
  rcases (show u = 0 ∨ u = 1 by omega) with rfl | rfl
  · exact tc_nameOf_0 hx.2.2.2.1.2.1
  · exact tc_nameOf_1 hx.2.2.2.1.2.1
set_option maxRecDepth 100000 in
set_option maxHeartbeats 4000000 in
theorem tc_add {ro : xRO} {d : Nat} {M : xM} {T : Nat} {k : Nat} (hk : M 46 2 = nI k) (k60 : k < 60) {v : Int32} : Rn ro d M_X6_addStep 0 [some (.ref 49), some (.int v)] [] (mk M T) (fun r h => r = none ∧ h = mk (up (up M 47 k v) 46 2 (nI (k + 1))) T) := by
  refine R_go 2 (pc' := 4) (L' := [some (.ref 49), some (.int v)]) (st' := [.int (M 46 2)]) (h' := mk M T) (fun _ => rfl) ?_
  refine R_top (y := nI k) (hk) ?_
  refine R_if 1 (c := (nI k) < 0) (t := 39) (f := 7) (L' := [some (.ref 49), some (.int v)]) (st' := []) (h' := mk M T) (fun _ => rfl) (fun h1 => ?_) (fun h1 => ?_)
  · replace h1 : k < 0 := (nI_ltI (a := k) (b := 0) (by omega) (by omega)).mp h1
    omega
  · replace h1 : ¬ k < 0 := fun q => h1 ((nI_ltI (a := k) (b := 0) (by omega) (by omega)).mpr q)
    refine R_go 2 (pc' := 11) (L' := [some (.ref 49), some (.int v)]) (st' := [.int (M 46 2)]) (h' := mk M T) (fun _ => rfl) ?_
    refine R_top (y := nI k) (hk) ?_
    refine R_if 4 (c := 60 ≤ (nI k)) (t := 39) (f := 19) (L' := [some (.ref 49), some (.int v)]) (st' := []) (h' := mk M T) (fun _ => rfl) (fun h2 => ?_) (fun h2 => ?_)
    · replace h2 : 60 ≤ k := (nI_leI (a := 60) (b := k) (by omega) (by omega)).mp h2
      omega
    · replace h2 : ¬ 60 ≤ k := fun q => h2 ((nI_leI (a := 60) (b := k) (by omega) (by omega)).mpr q)
      refine R_go 4 (pc' := 27) (L' := [some (.ref 49), some (.int v)]) (st' := [.int (M 46 2), .ref 50]) (h' := mk M T) (fun _ => rfl) ?_
      refine R_top (y := nI k) (hk) ?_
      refine R_go 1 (pc' := 28) (L' := [some (.ref 49), some (.int v)]) (st' := [.int v, .int (nI k), .ref 50]) (h' := mk M T) (fun _ => rfl) ?_
      refine R_iast (c := 47) (n := 60) (j := k) rfl rfl (by omega) (by decide) ?_
      refine R_go 3 (pc' := 34) (L' := [some (.ref 49), some (.int v)]) (st' := [.int ((up M 47 k v) 46 2), .ref 49]) (h' := mk (up M 47 k v) T) (fun _ => rfl) ?_
      refine R_top (y := nI k) (hk) ?_
      refine R_go 2 (pc' := 36) (L' := [some (.ref 49), some (.int v)]) (st' := [.int (nI k + 1), .ref 49]) (h' := mk (up M 47 k v) T) (fun _ => rfl) ?_
      refine R_top (nI_add k 1) ?_
      refine R_ret 2 (pcr := 39) (v := none) (h' := mk (up (up M 47 k v) 46 2 (nI (k + 1))) T) (fun _ => rfl) ?_
      exact ⟨rfl, rfl⟩
set_option maxRecDepth 100000 in
set_option maxHeartbeats 4000000 in
theorem tc_add_o {ro : xRO} {d : Nat} {M : xM} {T : Nat} (hk : M 46 2 = nI 60) {v : Int32} : Rn ro d M_X6_addStep 0 [some (.ref 49), some (.int v)] [] (mk M T) (fun r h => r = none ∧ h = mk M T) := by
  refine R_go 2 (pc' := 4) (L' := [some (.ref 49), some (.int v)]) (st' := [.int (M 46 2)]) (h' := mk M T) (fun _ => rfl) ?_
  refine R_top (y := 60) (hk) ?_
  refine R_go 3 (pc' := 11) (L' := [some (.ref 49), some (.int v)]) (st' := [.int (M 46 2)]) (h' := mk M T) (fun _ => rfl) ?_
  refine R_top (y := 60) (hk) ?_
  refine R_ret 5 (pcr := 39) (v := none) (h' := mk M T) (fun _ => rfl) ?_
  exact ⟨rfl, rfl⟩
theorem tc_addF {ro : xRO} {d : Nat} {M Mb : xM} {p : Nat} {v : Int32} (hx : tpF Mb p M) : Rn ro d M_X6_addStep 0 [some (.ref 49), some (.int v)] [] (mk M 15) (fun r h => ∃ M', tpF Mb p M' ∧ r = none ∧ h = mk M' 15) := by
  obtain ⟨h1, ⟨k, k60, hk⟩, h3⟩ := hx
  rcases Nat.lt_or_ge k 60 with q | q
  · refine (tc_add hk q).imp (fun _ _ w => ⟨up (up M 47 k v) 46 2 (nI (k + 1)), ⟨h1, ⟨k + 1, q, up_at⟩, fun c a b e => ?_⟩, w⟩)
    rw [up_ne b, up_ne e]
    exact h3 c a b e
  · obtain rfl : k = 60 := by omega
    exact (tc_add_o hk).imp (fun _ _ w => ⟨M, ⟨h1, ⟨60, k60, hk⟩, h3⟩, w⟩)
